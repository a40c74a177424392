section
-- ===== PART A: goes FIRST, ahead of the names: the tables' words, and 'selects' of the private methods out of them =====
/-- a private method of a class that the tables say can be made, by its rows of tables_1 -/
def lw_okq (q : MethodName × Nat) : Prop := (q.1.cls ≠ "java/lang/invoke/MethodHandle" ∧ q.1.cls ≠ "java/lang/invoke/VarHandle") ∧ Cond.instantiable q.1.cls q.2 ∈ tables_1 ∧ Cond.privateMethod q.1 ∈ tables_1 ∧ Cond.instanceMethod q.1 ∈ tables_1
theorem lw_p0 : lw_okq (⟨"HoldBench$Tally", "restart", "()V"⟩, 7) := ⟨⟨by decide +kernel, by decide +kernel⟩, List.mem_of_getElem? (i := 73) (by decide +kernel), List.mem_of_getElem? (i := 79) (by decide +kernel), List.mem_of_getElem? (i := 80) (by decide +kernel)⟩
theorem lw_p1 : lw_okq (⟨"HoldBench$Shelf", "makeThing", "(I)I"⟩, 4) := ⟨⟨by decide +kernel, by decide +kernel⟩, List.mem_of_getElem? (i := 18) (by decide +kernel), List.mem_of_getElem? (i := 157) (by decide +kernel), List.mem_of_getElem? (i := 158) (by decide +kernel)⟩
theorem lw_p2 : lw_okq (⟨"HoldBench$Shelf", "put", "(II)V"⟩, 4) := ⟨⟨by decide +kernel, by decide +kernel⟩, List.mem_of_getElem? (i := 18) (by decide +kernel), List.mem_of_getElem? (i := 161) (by decide +kernel), List.mem_of_getElem? (i := 162) (by decide +kernel)⟩
theorem lw_p3 : lw_okq (⟨"HoldBench$Shelf", "thingIn", "(I)I"⟩, 4) := ⟨⟨by decide +kernel, by decide +kernel⟩, List.mem_of_getElem? (i := 18) (by decide +kernel), List.mem_of_getElem? (i := 170) (by decide +kernel), List.mem_of_getElem? (i := 171) (by decide +kernel)⟩
theorem lw_p4 : lw_okq (⟨"HoldBench$Program", "append", "(IIIII)I"⟩, 6) := ⟨⟨by decide +kernel, by decide +kernel⟩, List.mem_of_getElem? (i := 42) (by decide +kernel), List.mem_of_getElem? (i := 188) (by decide +kernel), List.mem_of_getElem? (i := 189) (by decide +kernel)⟩
theorem lw_p5 : lw_okq (⟨"HoldBench$Program", "empty", "(I)I"⟩, 6) := ⟨⟨by decide +kernel, by decide +kernel⟩, List.mem_of_getElem? (i := 42) (by decide +kernel), List.mem_of_getElem? (i := 197) (by decide +kernel), List.mem_of_getElem? (i := 198) (by decide +kernel)⟩
theorem lw_p6 : lw_okq (⟨"HoldBench$Runner", "doBlock", "(IIZ)I"⟩, 4) := ⟨⟨by decide +kernel, by decide +kernel⟩, List.mem_of_getElem? (i := 111) (by decide +kernel), List.mem_of_getElem? (i := 206) (by decide +kernel), List.mem_of_getElem? (i := 207) (by decide +kernel)⟩
theorem lw_p7 : lw_okq (⟨"HoldBench$Runner", "doStep", "(IIZ)I"⟩, 4) := ⟨⟨by decide +kernel, by decide +kernel⟩, List.mem_of_getElem? (i := 111) (by decide +kernel), List.mem_of_getElem? (i := 214) (by decide +kernel), List.mem_of_getElem? (i := 215) (by decide +kernel)⟩
theorem lw_p8 : lw_okq (⟨"HoldBench$Tally", "enterMark", "(I)V"⟩, 7) := ⟨⟨by decide +kernel, by decide +kernel⟩, List.mem_of_getElem? (i := 73) (by decide +kernel), List.mem_of_getElem? (i := 218) (by decide +kernel), List.mem_of_getElem? (i := 219) (by decide +kernel)⟩
theorem lw_p9 : lw_okq (⟨"HoldBench$Tally", "enter", "(I)V"⟩, 7) := ⟨⟨by decide +kernel, by decide +kernel⟩, List.mem_of_getElem? (i := 73) (by decide +kernel), List.mem_of_getElem? (i := 222) (by decide +kernel), List.mem_of_getElem? (i := 223) (by decide +kernel)⟩
theorem lw_p10 : lw_okq (⟨"HoldBench$Runner", "doHold", "(IIIZ)I"⟩, 4) := ⟨⟨by decide +kernel, by decide +kernel⟩, List.mem_of_getElem? (i := 111) (by decide +kernel), List.mem_of_getElem? (i := 226) (by decide +kernel), List.mem_of_getElem? (i := 227) (by decide +kernel)⟩
theorem lw_p11 : lw_okq (⟨"HoldBench$Runner", "beginHold", "(I)V"⟩, 4) := ⟨⟨by decide +kernel, by decide +kernel⟩, List.mem_of_getElem? (i := 111) (by decide +kernel), List.mem_of_getElem? (i := 231) (by decide +kernel), List.mem_of_getElem? (i := 232) (by decide +kernel)⟩
theorem lw_p12 : lw_okq (⟨"HoldBench$Shelf", "deepen", "(II)V"⟩, 4) := ⟨⟨by decide +kernel, by decide +kernel⟩, List.mem_of_getElem? (i := 18) (by decide +kernel), List.mem_of_getElem? (i := 235) (by decide +kernel), List.mem_of_getElem? (i := 236) (by decide +kernel)⟩
theorem lw_p13 : lw_okq (⟨"HoldBench$Shelf", "isThing", "(I)Z"⟩, 4) := ⟨⟨by decide +kernel, by decide +kernel⟩, List.mem_of_getElem? (i := 18) (by decide +kernel), List.mem_of_getElem? (i := 239) (by decide +kernel), List.mem_of_getElem? (i := 240) (by decide +kernel)⟩
theorem lw_p14 : lw_okq (⟨"HoldBench$Tally", "enterBegun", "(I)V"⟩, 7) := ⟨⟨by decide +kernel, by decide +kernel⟩, List.mem_of_getElem? (i := 73) (by decide +kernel), List.mem_of_getElem? (i := 243) (by decide +kernel), List.mem_of_getElem? (i := 244) (by decide +kernel)⟩
theorem lw_p15 : lw_okq (⟨"HoldBench$Runner", "leaveHold", "(II)V"⟩, 4) := ⟨⟨by decide +kernel, by decide +kernel⟩, List.mem_of_getElem? (i := 111) (by decide +kernel), List.mem_of_getElem? (i := 254) (by decide +kernel), List.mem_of_getElem? (i := 255) (by decide +kernel)⟩
def lw_privs_1 : List (MethodName × Nat) := [(⟨"HoldBench$Tally", "restart", "()V"⟩, 7), (⟨"HoldBench$Shelf", "makeThing", "(I)I"⟩, 4), (⟨"HoldBench$Shelf", "put", "(II)V"⟩, 4), (⟨"HoldBench$Shelf", "thingIn", "(I)I"⟩, 4), (⟨"HoldBench$Program", "append", "(IIIII)I"⟩, 6), (⟨"HoldBench$Program", "empty", "(I)I"⟩, 6), (⟨"HoldBench$Runner", "doBlock", "(IIZ)I"⟩, 4), (⟨"HoldBench$Runner", "doStep", "(IIZ)I"⟩, 4), (⟨"HoldBench$Tally", "enterMark", "(I)V"⟩, 7), (⟨"HoldBench$Tally", "enter", "(I)V"⟩, 7), (⟨"HoldBench$Runner", "doHold", "(IIIZ)I"⟩, 4), (⟨"HoldBench$Runner", "beginHold", "(I)V"⟩, 4), (⟨"HoldBench$Shelf", "deepen", "(II)V"⟩, 4), (⟨"HoldBench$Shelf", "isThing", "(I)Z"⟩, 4), (⟨"HoldBench$Tally", "enterBegun", "(I)V"⟩, 7), (⟨"HoldBench$Runner", "leaveHold", "(II)V"⟩, 4)]
theorem lw_r1 : ∀ q ∈ lw_privs_1, lw_okq q := List.forall_mem_cons.mpr ⟨lw_p0, List.forall_mem_cons.mpr ⟨lw_p1, List.forall_mem_cons.mpr ⟨lw_p2, List.forall_mem_cons.mpr ⟨lw_p3, List.forall_mem_cons.mpr ⟨lw_p4, List.forall_mem_cons.mpr ⟨lw_p5, List.forall_mem_cons.mpr ⟨lw_p6, List.forall_mem_cons.mpr ⟨lw_p7, List.forall_mem_cons.mpr ⟨lw_p8, List.forall_mem_cons.mpr ⟨lw_p9, List.forall_mem_cons.mpr ⟨lw_p10, List.forall_mem_cons.mpr ⟨lw_p11, List.forall_mem_cons.mpr ⟨lw_p12, List.forall_mem_cons.mpr ⟨lw_p13, List.forall_mem_cons.mpr ⟨lw_p14, List.forall_mem_cons.mpr ⟨lw_p15, fun _ h => absurd h List.not_mem_nil⟩⟩⟩⟩⟩⟩⟩⟩⟩⟩⟩⟩⟩⟩⟩⟩
theorem lw_p16 : lw_okq (⟨"HoldBench$Tally", "enterLeft", "(II)V"⟩, 7) := ⟨⟨by decide +kernel, by decide +kernel⟩, List.mem_of_getElem? (i := 73) (by decide +kernel), List.mem_of_getElem? (i := 258) (by decide +kernel), List.mem_of_getElem? (i := 259) (by decide +kernel)⟩
theorem lw_p17 : lw_okq (⟨"HoldBench$Runner", "doLoop", "(III)I"⟩, 4) := ⟨⟨by decide +kernel, by decide +kernel⟩, List.mem_of_getElem? (i := 111) (by decide +kernel), List.mem_of_getElem? (i := 262) (by decide +kernel), List.mem_of_getElem? (i := 263) (by decide +kernel)⟩
theorem lw_p18 : lw_okq (⟨"HoldBench$Runner", "doTry", "(IIIIZ)I"⟩, 4) := ⟨⟨by decide +kernel, by decide +kernel⟩, List.mem_of_getElem? (i := 111) (by decide +kernel), List.mem_of_getElem? (i := 266) (by decide +kernel), List.mem_of_getElem? (i := 267) (by decide +kernel)⟩
theorem lw_p19 : lw_okq (⟨"HoldBench$Runner", "doBoth", "(IIIZ)I"⟩, 4) := ⟨⟨by decide +kernel, by decide +kernel⟩, List.mem_of_getElem? (i := 111) (by decide +kernel), List.mem_of_getElem? (i := 270) (by decide +kernel), List.mem_of_getElem? (i := 271) (by decide +kernel)⟩
theorem lw_p20 : lw_okq (⟨"HoldBench$Runner", "doCall", "(II)I"⟩, 4) := ⟨⟨by decide +kernel, by decide +kernel⟩, List.mem_of_getElem? (i := 111) (by decide +kernel), List.mem_of_getElem? (i := 274) (by decide +kernel), List.mem_of_getElem? (i := 275) (by decide +kernel)⟩
theorem lw_p21 : lw_okq (⟨"HoldBench$Runner", "doAdd", "(II)I"⟩, 4) := ⟨⟨by decide +kernel, by decide +kernel⟩, List.mem_of_getElem? (i := 111) (by decide +kernel), List.mem_of_getElem? (i := 278) (by decide +kernel), List.mem_of_getElem? (i := 279) (by decide +kernel)⟩
theorem lw_p22 : lw_okq (⟨"HoldBench$Shelf", "isHeld", "(I)Z"⟩, 4) := ⟨⟨by decide +kernel, by decide +kernel⟩, List.mem_of_getElem? (i := 18) (by decide +kernel), List.mem_of_getElem? (i := 282) (by decide +kernel), List.mem_of_getElem? (i := 283) (by decide +kernel)⟩
theorem lw_p23 : lw_okq (⟨"HoldBench$Shelf", "raiseNumber", "(II)V"⟩, 4) := ⟨⟨by decide +kernel, by decide +kernel⟩, List.mem_of_getElem? (i := 18) (by decide +kernel), List.mem_of_getElem? (i := 286) (by decide +kernel), List.mem_of_getElem? (i := 287) (by decide +kernel)⟩
theorem lw_p24 : lw_okq (⟨"HoldBench$Runner", "doNew", "(I)I"⟩, 4) := ⟨⟨by decide +kernel, by decide +kernel⟩, List.mem_of_getElem? (i := 111) (by decide +kernel), List.mem_of_getElem? (i := 291) (by decide +kernel), List.mem_of_getElem? (i := 292) (by decide +kernel)⟩
theorem lw_p25 : lw_okq (⟨"HoldBench$Runner", "doSweep", "(I)V"⟩, 4) := ⟨⟨by decide +kernel, by decide +kernel⟩, List.mem_of_getElem? (i := 111) (by decide +kernel), List.mem_of_getElem? (i := 296) (by decide +kernel), List.mem_of_getElem? (i := 297) (by decide +kernel)⟩
theorem lw_p26 : lw_okq (⟨"HoldBench$Shelf", "numberOf", "(I)I"⟩, 4) := ⟨⟨by decide +kernel, by decide +kernel⟩, List.mem_of_getElem? (i := 18) (by decide +kernel), List.mem_of_getElem? (i := 300) (by decide +kernel), List.mem_of_getElem? (i := 301) (by decide +kernel)⟩
theorem lw_p27 : lw_okq (⟨"HoldBench$Tally", "entry", "(I)I"⟩, 7) := ⟨⟨by decide +kernel, by decide +kernel⟩, List.mem_of_getElem? (i := 73) (by decide +kernel), List.mem_of_getElem? (i := 309) (by decide +kernel), List.mem_of_getElem? (i := 310) (by decide +kernel)⟩
theorem lw_p28 : lw_okq (⟨"HoldBenchModel", "made", "(I)I"⟩, 22) := ⟨⟨by decide +kernel, by decide +kernel⟩, List.mem_of_getElem? (i := 332) (by decide +kernel), List.mem_of_getElem? (i := 415) (by decide +kernel), List.mem_of_getElem? (i := 416) (by decide +kernel)⟩
theorem lw_p29 : lw_okq (⟨"HoldBenchModel", "block", "(I)I"⟩, 22) := ⟨⟨by decide +kernel, by decide +kernel⟩, List.mem_of_getElem? (i := 332) (by decide +kernel), List.mem_of_getElem? (i := 441) (by decide +kernel), List.mem_of_getElem? (i := 442) (by decide +kernel)⟩
theorem lw_p30 : lw_okq (⟨"HoldBenchModel", "doStep", "(I)I"⟩, 22) := ⟨⟨by decide +kernel, by decide +kernel⟩, List.mem_of_getElem? (i := 332) (by decide +kernel), List.mem_of_getElem? (i := 445) (by decide +kernel), List.mem_of_getElem? (i := 446) (by decide +kernel)⟩
theorem lw_p31 : lw_okq (⟨"HoldBenchModel", "comes", "(I)V"⟩, 22) := ⟨⟨by decide +kernel, by decide +kernel⟩, List.mem_of_getElem? (i := 332) (by decide +kernel), List.mem_of_getElem? (i := 449) (by decide +kernel), List.mem_of_getElem? (i := 450) (by decide +kernel)⟩
def lw_privs_2 : List (MethodName × Nat) := [(⟨"HoldBench$Tally", "enterLeft", "(II)V"⟩, 7), (⟨"HoldBench$Runner", "doLoop", "(III)I"⟩, 4), (⟨"HoldBench$Runner", "doTry", "(IIIIZ)I"⟩, 4), (⟨"HoldBench$Runner", "doBoth", "(IIIZ)I"⟩, 4), (⟨"HoldBench$Runner", "doCall", "(II)I"⟩, 4), (⟨"HoldBench$Runner", "doAdd", "(II)I"⟩, 4), (⟨"HoldBench$Shelf", "isHeld", "(I)Z"⟩, 4), (⟨"HoldBench$Shelf", "raiseNumber", "(II)V"⟩, 4), (⟨"HoldBench$Runner", "doNew", "(I)I"⟩, 4), (⟨"HoldBench$Runner", "doSweep", "(I)V"⟩, 4), (⟨"HoldBench$Shelf", "numberOf", "(I)I"⟩, 4), (⟨"HoldBench$Tally", "entry", "(I)I"⟩, 7), (⟨"HoldBenchModel", "made", "(I)I"⟩, 22), (⟨"HoldBenchModel", "block", "(I)I"⟩, 22), (⟨"HoldBenchModel", "doStep", "(I)I"⟩, 22), (⟨"HoldBenchModel", "comes", "(I)V"⟩, 22)]
theorem lw_r2 : ∀ q ∈ lw_privs_2, lw_okq q := List.forall_mem_cons.mpr ⟨lw_p16, List.forall_mem_cons.mpr ⟨lw_p17, List.forall_mem_cons.mpr ⟨lw_p18, List.forall_mem_cons.mpr ⟨lw_p19, List.forall_mem_cons.mpr ⟨lw_p20, List.forall_mem_cons.mpr ⟨lw_p21, List.forall_mem_cons.mpr ⟨lw_p22, List.forall_mem_cons.mpr ⟨lw_p23, List.forall_mem_cons.mpr ⟨lw_p24, List.forall_mem_cons.mpr ⟨lw_p25, List.forall_mem_cons.mpr ⟨lw_p26, List.forall_mem_cons.mpr ⟨lw_p27, List.forall_mem_cons.mpr ⟨lw_p28, List.forall_mem_cons.mpr ⟨lw_p29, List.forall_mem_cons.mpr ⟨lw_p30, List.forall_mem_cons.mpr ⟨lw_p31, fun _ h => absurd h List.not_mem_nil⟩⟩⟩⟩⟩⟩⟩⟩⟩⟩⟩⟩⟩⟩⟩⟩
theorem lw_p32 : lw_okq (⟨"HoldBenchModel", "throwing", "(I)I"⟩, 22) := ⟨⟨by decide +kernel, by decide +kernel⟩, List.mem_of_getElem? (i := 332) (by decide +kernel), List.mem_of_getElem? (i := 453) (by decide +kernel), List.mem_of_getElem? (i := 454) (by decide +kernel)⟩
theorem lw_p33 : lw_okq (⟨"HoldBenchModel", "hold", "(II)I"⟩, 22) := ⟨⟨by decide +kernel, by decide +kernel⟩, List.mem_of_getElem? (i := 332) (by decide +kernel), List.mem_of_getElem? (i := 457) (by decide +kernel), List.mem_of_getElem? (i := 458) (by decide +kernel)⟩
theorem lw_p34 : lw_okq (⟨"HoldBenchModel", "begin", "(I)V"⟩, 22) := ⟨⟨by decide +kernel, by decide +kernel⟩, List.mem_of_getElem? (i := 332) (by decide +kernel), List.mem_of_getElem? (i := 461) (by decide +kernel), List.mem_of_getElem? (i := 462) (by decide +kernel)⟩
theorem lw_p35 : lw_okq (⟨"HoldBenchModel", "leave", "(II)V"⟩, 22) := ⟨⟨by decide +kernel, by decide +kernel⟩, List.mem_of_getElem? (i := 332) (by decide +kernel), List.mem_of_getElem? (i := 465) (by decide +kernel), List.mem_of_getElem? (i := 466) (by decide +kernel)⟩
theorem lw_p36 : lw_okq (⟨"HoldBenchModel", "loop", "(II)I"⟩, 22) := ⟨⟨by decide +kernel, by decide +kernel⟩, List.mem_of_getElem? (i := 332) (by decide +kernel), List.mem_of_getElem? (i := 469) (by decide +kernel), List.mem_of_getElem? (i := 470) (by decide +kernel)⟩
theorem lw_p37 : lw_okq (⟨"HoldBenchModel", "tried", "(III)I"⟩, 22) := ⟨⟨by decide +kernel, by decide +kernel⟩, List.mem_of_getElem? (i := 332) (by decide +kernel), List.mem_of_getElem? (i := 473) (by decide +kernel), List.mem_of_getElem? (i := 474) (by decide +kernel)⟩
theorem lw_p38 : lw_okq (⟨"HoldBenchModel", "both", "(II)I"⟩, 22) := ⟨⟨by decide +kernel, by decide +kernel⟩, List.mem_of_getElem? (i := 332) (by decide +kernel), List.mem_of_getElem? (i := 477) (by decide +kernel), List.mem_of_getElem? (i := 478) (by decide +kernel)⟩
theorem lw_p39 : lw_okq (⟨"HoldBenchModel", "call", "(I)I"⟩, 22) := ⟨⟨by decide +kernel, by decide +kernel⟩, List.mem_of_getElem? (i := 332) (by decide +kernel), List.mem_of_getElem? (i := 481) (by decide +kernel), List.mem_of_getElem? (i := 482) (by decide +kernel)⟩
theorem lw_p40 : lw_okq (⟨"HoldBenchModel", "add", "(II)I"⟩, 22) := ⟨⟨by decide +kernel, by decide +kernel⟩, List.mem_of_getElem? (i := 332) (by decide +kernel), List.mem_of_getElem? (i := 485) (by decide +kernel), List.mem_of_getElem? (i := 486) (by decide +kernel)⟩
theorem lw_p41 : lw_okq (⟨"HoldBenchModel", "sweep", "(I)I"⟩, 22) := ⟨⟨by decide +kernel, by decide +kernel⟩, List.mem_of_getElem? (i := 332) (by decide +kernel), List.mem_of_getElem? (i := 489) (by decide +kernel), List.mem_of_getElem? (i := 490) (by decide +kernel)⟩
def lw_privs_3 : List (MethodName × Nat) := [(⟨"HoldBenchModel", "throwing", "(I)I"⟩, 22), (⟨"HoldBenchModel", "hold", "(II)I"⟩, 22), (⟨"HoldBenchModel", "begin", "(I)V"⟩, 22), (⟨"HoldBenchModel", "leave", "(II)V"⟩, 22), (⟨"HoldBenchModel", "loop", "(II)I"⟩, 22), (⟨"HoldBenchModel", "tried", "(III)I"⟩, 22), (⟨"HoldBenchModel", "both", "(II)I"⟩, 22), (⟨"HoldBenchModel", "call", "(I)I"⟩, 22), (⟨"HoldBenchModel", "add", "(II)I"⟩, 22), (⟨"HoldBenchModel", "sweep", "(I)I"⟩, 22)]
theorem lw_r3 : ∀ q ∈ lw_privs_3, lw_okq q := List.forall_mem_cons.mpr ⟨lw_p32, List.forall_mem_cons.mpr ⟨lw_p33, List.forall_mem_cons.mpr ⟨lw_p34, List.forall_mem_cons.mpr ⟨lw_p35, List.forall_mem_cons.mpr ⟨lw_p36, List.forall_mem_cons.mpr ⟨lw_p37, List.forall_mem_cons.mpr ⟨lw_p38, List.forall_mem_cons.mpr ⟨lw_p39, List.forall_mem_cons.mpr ⟨lw_p40, List.forall_mem_cons.mpr ⟨lw_p41, fun _ h => absurd h List.not_mem_nil⟩⟩⟩⟩⟩⟩⟩⟩⟩⟩
def lw_privs : List (MethodName × Nat) := lw_privs_1 ++ (lw_privs_2 ++ (lw_privs_3))
def lw_tbl : List Cond := k2_sels lw_privs ++ tables_1
theorem lw_privs_ok : ∀ q ∈ lw_privs, lw_okq q := by
  show ∀ q ∈ lw_privs_1 ++ (lw_privs_2 ++ (lw_privs_3)), lw_okq q
  exact List.forall_mem_append.mpr ⟨lw_r1, List.forall_mem_append.mpr ⟨lw_r2, lw_r3⟩⟩
end
section
/-! ===== BEGIN words of one list among another's, by their places ===== -/
theorem goodIn_r {big : List Cond} (ws : List Cond) (ps : List Nat) (hp : ws = ps.filterMap (fun i => big[i]?)) (h : ws.all goodWord = true) : GoodIn big ws := by
  intro w hw
  have h1 := List.all_eq_true.mp h w hw
  rw [hp] at hw
  obtain ⟨i, -, hi⟩ := List.mem_filterMap.mp hw
  have hm : w ∈ big := by first | exact List.mem_of_getElem? hi | exact List.getElem?_mem hi
  exact ⟨hm, good_of_word h1⟩
theorem goodIn_app {big a b : List Cond} (ha : GoodIn big a) (hb : GoodIn big b) : GoodIn big (a ++ b) := fun w h => (List.mem_append.mp h).elim (ha w) (hb w)
theorem goodIn_ca {big a b : List Cond} {c : Cond} (ha : GoodIn big (c :: a)) (hb : GoodIn big b) : GoodIn big (c :: (a ++ b)) := fun w h => (List.mem_cons.mp h).elim (fun e => ha w (List.mem_cons.mpr (Or.inl e))) (fun h => (List.mem_append.mp h).elim (fun h => ha w (List.mem_cons.mpr (Or.inr h))) (hb w))
theorem goodIn_sub {big ws : List Cond} (hm : ∀ w ∈ ws, w ∈ big) (h : ws.all goodWord = true) : GoodIn big ws := fun w hw => ⟨hm w hw, good_of_word (List.all_eq_true.mp h w hw)⟩
/-! ===== END ===== -/

/-! ===== BEGIN printed: names, fields, word lists, decode rows ===== -/
def RX0 : String := "HoldBench$Program"
def TX0 : u_T := fun k => match k with
  | 0 => ("HoldBench$Program", "sizes", "[I", true)
  | 1 => ("HoldBench$Program", "kinds", "[I", true)
  | 2 => ("HoldBench$Program", "as", "[I", true)
  | 3 => ("HoldBench$Program", "xs", "[I", true)
  | 4 => ("HoldBench$Program", "ys", "[I", true)
  | _ => ("HoldBench$Program", "total", "I", false)
def tyX0 : Nat → FieldType := fun k => match k with
  | 0 => .array .int
  | 1 => .array .int
  | 2 => .array .int
  | 3 => .array .int
  | 4 => .array .int
  | _ => .int
abbrev wsX00 : List Cond := u_ws RX0 TX0 6
theorem nmX0 : ∀ a, a < 6 → ∀ b, b < 6 → a ≠ b → (TX0 a).2.1 ≠ (TX0 b).2.1 := by decide +kernel
theorem tyX0_ok : ∀ k, k < 6 → parseFieldDescriptor (TX0 k).2.2.1 = some (tyX0 k) := by decide +kernel
abbrev cX0_init : ByteArray := prog_2_method_1_code
def yX0_init : MethodName := ⟨RX0, "<init>", "()V"⟩
abbrev cX0_append : ByteArray := prog_2_method_2_code
def yX0_append : MethodName := ⟨RX0, "append", "(IIIII)I"⟩
abbrev cX0_empty : ByteArray := prog_2_method_3_code
def yX0_empty : MethodName := ⟨RX0, "empty", "(I)I"⟩
def RX1 : String := "HoldBench$Runner"
def TX1 : u_T := fun k => match k with
  | 0 => ("HoldBench$Runner", "shelf", "LHoldBench$Shelf;", true)
  | 1 => ("HoldBench$Runner", "program", "LHoldBench$Program;", true)
  | 2 => ("HoldBench$Runner", "tally", "LHoldBench$Tally;", true)
  | _ => ("HoldBench$Runner", "refused", "I", false)
def tyX1 : Nat → FieldType := fun k => match k with
  | 0 => .object "HoldBench$Shelf"
  | 1 => .object "HoldBench$Program"
  | 2 => .object "HoldBench$Tally"
  | _ => .int
abbrev wsX10 : List Cond := u_ws RX1 TX1 4
theorem nmX1 : ∀ a, a < 4 → ∀ b, b < 4 → a ≠ b → (TX1 a).2.1 ≠ (TX1 b).2.1 := by decide +kernel
theorem tyX1_ok : ∀ k, k < 4 → parseFieldDescriptor (TX1 k).2.2.1 = some (tyX1 k) := by decide +kernel
abbrev cX1_init : ByteArray := prog_3_method_1_code
def yX1_init : MethodName := ⟨RX1, "<init>", "(LHoldBench$Shelf;LHoldBench$Program;LHoldBench$Tally;)V"⟩
abbrev cX1_doBlock : ByteArray := prog_3_method_2_code
def yX1_doBlock : MethodName := ⟨RX1, "doBlock", "(IIZ)I"⟩
abbrev cX1_doStep : ByteArray := prog_3_method_3_code
def yX1_doStep : MethodName := ⟨RX1, "doStep", "(IIZ)I"⟩
abbrev cX1_doHold : ByteArray := prog_3_method_4_code
def yX1_doHold : MethodName := ⟨RX1, "doHold", "(IIIZ)I"⟩
abbrev cX1_beginHold : ByteArray := prog_3_method_5_code
def yX1_beginHold : MethodName := ⟨RX1, "beginHold", "(I)V"⟩
abbrev cX1_leaveHold : ByteArray := prog_3_method_6_code
def yX1_leaveHold : MethodName := ⟨RX1, "leaveHold", "(II)V"⟩
abbrev cX1_doLoop : ByteArray := prog_3_method_7_code
def yX1_doLoop : MethodName := ⟨RX1, "doLoop", "(III)I"⟩
abbrev cX1_doTry : ByteArray := prog_3_method_8_code
def yX1_doTry : MethodName := ⟨RX1, "doTry", "(IIIIZ)I"⟩
abbrev cX1_doBoth : ByteArray := prog_3_method_9_code
def yX1_doBoth : MethodName := ⟨RX1, "doBoth", "(IIIZ)I"⟩
abbrev cX1_doCall : ByteArray := prog_3_method_10_code
def yX1_doCall : MethodName := ⟨RX1, "doCall", "(II)I"⟩
abbrev cX1_doAdd : ByteArray := prog_3_method_11_code
def yX1_doAdd : MethodName := ⟨RX1, "doAdd", "(II)I"⟩
abbrev cX1_doNew : ByteArray := prog_3_method_12_code
def yX1_doNew : MethodName := ⟨RX1, "doNew", "(I)I"⟩
abbrev cX1_doSweep : ByteArray := prog_3_method_13_code
def yX1_doSweep : MethodName := ⟨RX1, "doSweep", "(I)V"⟩
def RX2 : String := "HoldBench$Shelf"
def TX2 : u_T := fun k => match k with
  | 0 => ("HoldBench$Shelf", "places", "[I", true)
  | 1 => ("HoldBench$Shelf", "numbers", "[I", true)
  | 2 => ("HoldBench$Shelf", "depths", "[I", true)
  | _ => ("HoldBench$Shelf", "made", "I", false)
def tyX2 : Nat → FieldType := fun k => match k with
  | 0 => .array .int
  | 1 => .array .int
  | 2 => .array .int
  | _ => .int
abbrev wsX20 : List Cond := u_ws RX2 TX2 4
theorem nmX2 : ∀ a, a < 4 → ∀ b, b < 4 → a ≠ b → (TX2 a).2.1 ≠ (TX2 b).2.1 := by decide +kernel
theorem tyX2_ok : ∀ k, k < 4 → parseFieldDescriptor (TX2 k).2.2.1 = some (tyX2 k) := by decide +kernel
abbrev cX2_init : ByteArray := prog_4_method_1_code
def yX2_init : MethodName := ⟨RX2, "<init>", "()V"⟩
abbrev cX2_isThing : ByteArray := prog_4_method_2_code
def yX2_isThing : MethodName := ⟨RX2, "isThing", "(I)Z"⟩
abbrev cX2_makeThing : ByteArray := prog_4_method_3_code
def yX2_makeThing : MethodName := ⟨RX2, "makeThing", "(I)I"⟩
abbrev cX2_thingIn : ByteArray := prog_4_method_4_code
def yX2_thingIn : MethodName := ⟨RX2, "thingIn", "(I)I"⟩
abbrev cX2_put : ByteArray := prog_4_method_5_code
def yX2_put : MethodName := ⟨RX2, "put", "(II)V"⟩
abbrev cX2_numberOf : ByteArray := prog_4_method_6_code
def yX2_numberOf : MethodName := ⟨RX2, "numberOf", "(I)I"⟩
abbrev cX2_raiseNumber : ByteArray := prog_4_method_7_code
def yX2_raiseNumber : MethodName := ⟨RX2, "raiseNumber", "(II)V"⟩
abbrev cX2_isHeld : ByteArray := prog_4_method_8_code
def yX2_isHeld : MethodName := ⟨RX2, "isHeld", "(I)Z"⟩
abbrev cX2_deepen : ByteArray := prog_4_method_9_code
def yX2_deepen : MethodName := ⟨RX2, "deepen", "(II)V"⟩
def RX3 : String := "HoldBench$Tally"
def TX3 : u_T := fun k => match k with
  | 0 => ("HoldBench$Tally", "entries", "[I", true)
  | 1 => ("HoldBench$Tally", "entered", "I", false)
  | 2 => ("HoldBench$Tally", "steps", "I", false)
  | 3 => ("HoldBench$Tally", "holds", "I", false)
  | 4 => ("HoldBench$Tally", "underWay", "I", false)
  | 5 => ("HoldBench$Tally", "most", "I", false)
  | _ => ("HoldBench$Tally", "cutShort", "I", false)
def tyX3 : Nat → FieldType := fun k => match k with
  | 0 => .array .int
  | 1 => .int
  | 2 => .int
  | 3 => .int
  | 4 => .int
  | 5 => .int
  | _ => .int
abbrev wsX30 : List Cond := u_ws RX3 TX3 7
theorem nmX3 : ∀ a, a < 7 → ∀ b, b < 7 → a ≠ b → (TX3 a).2.1 ≠ (TX3 b).2.1 := by decide +kernel
theorem tyX3_ok : ∀ k, k < 7 → parseFieldDescriptor (TX3 k).2.2.1 = some (tyX3 k) := by decide +kernel
abbrev cX3_init : ByteArray := prog_5_method_1_code
def yX3_init : MethodName := ⟨RX3, "<init>", "()V"⟩
abbrev cX3_restart : ByteArray := prog_5_method_2_code
def yX3_restart : MethodName := ⟨RX3, "restart", "()V"⟩
abbrev cX3_entry : ByteArray := prog_5_method_3_code
def yX3_entry : MethodName := ⟨RX3, "entry", "(I)I"⟩
abbrev cX3_enter : ByteArray := prog_5_method_4_code
def yX3_enter : MethodName := ⟨RX3, "enter", "(I)V"⟩
abbrev cX3_enterMark : ByteArray := prog_5_method_5_code
def yX3_enterMark : MethodName := ⟨RX3, "enterMark", "(I)V"⟩
abbrev cX3_enterBegun : ByteArray := prog_5_method_6_code
def yX3_enterBegun : MethodName := ⟨RX3, "enterBegun", "(I)V"⟩
abbrev cX3_enterLeft : ByteArray := prog_5_method_7_code
def yX3_enterLeft : MethodName := ⟨RX3, "enterLeft", "(II)V"⟩
def RX4 : String := "HoldBench"
def TX4 : u_T := fun k => match k with
  | 0 => ("HoldBench", "shelf", "LHoldBench$Shelf;", true)
  | 1 => ("HoldBench", "program", "LHoldBench$Program;", true)
  | 2 => ("HoldBench", "tally", "LHoldBench$Tally;", true)
  | 3 => ("HoldBench", "runner", "LHoldBench$Runner;", true)
  | _ => ("HoldBench", "runs", "I", false)
def tyX4 : Nat → FieldType := fun k => match k with
  | 0 => .object "HoldBench$Shelf"
  | 1 => .object "HoldBench$Program"
  | 2 => .object "HoldBench$Tally"
  | 3 => .object "HoldBench$Runner"
  | _ => .int
abbrev wsX40 : List Cond := u_ws RX4 TX4 5
theorem nmX4 : ∀ a, a < 5 → ∀ b, b < 5 → a ≠ b → (TX4 a).2.1 ≠ (TX4 b).2.1 := by decide +kernel
theorem tyX4_ok : ∀ k, k < 5 → parseFieldDescriptor (TX4 k).2.2.1 = some (tyX4 k) := by decide +kernel
abbrev cX4_init : ByteArray := prog_1_method_1_code
def yX4_init : MethodName := ⟨RX4, "<init>", "()V"⟩
abbrev cX4_thing : ByteArray := prog_1_method_2_code
def yX4_thing : MethodName := ⟨RX4, "thing", "(I)I"⟩
abbrev cX4_set : ByteArray := prog_1_method_3_code
def yX4_set : MethodName := ⟨RX4, "set", "(II)I"⟩
abbrev cX4_step : ByteArray := prog_1_method_4_code
def yX4_step : MethodName := ⟨RX4, "step", "(IIIII)I"⟩
abbrev cX4_clear : ByteArray := prog_1_method_5_code
def yX4_clear : MethodName := ⟨RX4, "clear", "(I)I"⟩
abbrev cX4_run : ByteArray := prog_1_method_6_code
def yX4_run : MethodName := ⟨RX4, "run", "()I"⟩
abbrev cX4_trace : ByteArray := prog_1_method_7_code
def yX4_trace : MethodName := ⟨RX4, "trace", "(I)I"⟩
abbrev cX4_told : ByteArray := prog_1_method_8_code
def yX4_told : MethodName := ⟨RX4, "told", "(I)I"⟩
abbrev cX4_at : ByteArray := prog_1_method_9_code
def yX4_at : MethodName := ⟨RX4, "at", "(I)I"⟩
abbrev cX4_number : ByteArray := prog_1_method_10_code
def yX4_number : MethodName := ⟨RX4, "number", "(I)I"⟩
abbrev cX4_count : ByteArray := prog_1_method_11_code
def yX4_count : MethodName := ⟨RX4, "count", "(I)I"⟩
abbrev cX4_isWithin : ByteArray := prog_1_method_12_code
def yX4_isWithin : MethodName := ⟨RX4, "isWithin", "(III)Z"⟩
abbrev cX4_isPlace : ByteArray := prog_1_method_13_code
def yX4_isPlace : MethodName := ⟨RX4, "isPlace", "(I)Z"⟩
abbrev cX4_isBlock : ByteArray := prog_1_method_14_code
def yX4_isBlock : MethodName := ⟨RX4, "isBlock", "(I)Z"⟩
abbrev cX4_isLater : ByteArray := prog_1_method_15_code
def yX4_isLater : MethodName := ⟨RX4, "isLater", "(II)Z"⟩
abbrev cX4_isStep : ByteArray := prog_1_method_16_code
def yX4_isStep : MethodName := ⟨RX4, "isStep", "(IIIII)Z"⟩
abbrev cX4_isThrown : ByteArray := prog_1_method_17_code
def yX4_isThrown : MethodName := ⟨RX4, "isThrown", "(I)Z"⟩
def RX5 : String := "HoldBenchModel"
def TX5 : u_T := fun k => match k with
  | 0 => ("HoldBenchModel", "thrown", "I", false)
  | 1 => ("HoldBenchModel", "placed", "[I", true)
  | 2 => ("HoldBenchModel", "things", "I", false)
  | 3 => ("HoldBenchModel", "number", "[I", true)
  | 4 => ("HoldBenchModel", "depth", "[I", true)
  | 5 => ("HoldBenchModel", "steps", "I", false)
  | 6 => ("HoldBenchModel", "many", "[I", true)
  | 7 => ("HoldBenchModel", "kinds", "[I", true)
  | 8 => ("HoldBenchModel", "as", "[I", true)
  | 9 => ("HoldBenchModel", "xs", "[I", true)
  | 10 => ("HoldBenchModel", "ys", "[I", true)
  | 11 => ("HoldBenchModel", "runs", "I", false)
  | 12 => ("HoldBenchModel", "refused", "I", false)
  | 13 => ("HoldBenchModel", "traced", "I", false)
  | 14 => ("HoldBenchModel", "trace", "[I", true)
  | 15 => ("HoldBenchModel", "done", "I", false)
  | 16 => ("HoldBenchModel", "holds", "I", false)
  | 17 => ("HoldBenchModel", "most", "I", false)
  | 18 => ("HoldBenchModel", "leftBadly", "I", false)
  | 19 => ("HoldBenchModel", "underWay", "I", false)
  | 20 => ("HoldBenchModel", "what", "I", false)
  | _ => ("HoldBenchModel", "loops", "I", false)
def tyX5 : Nat → FieldType := fun k => match k with
  | 0 => .int
  | 1 => .array .int
  | 2 => .int
  | 3 => .array .int
  | 4 => .array .int
  | 5 => .int
  | 6 => .array .int
  | 7 => .array .int
  | 8 => .array .int
  | 9 => .array .int
  | 10 => .array .int
  | 11 => .int
  | 12 => .int
  | 13 => .int
  | 14 => .array .int
  | 15 => .int
  | 16 => .int
  | 17 => .int
  | 18 => .int
  | 19 => .int
  | 20 => .int
  | _ => .int
abbrev wsX50 : List Cond := u_ws RX5 TX5 22
theorem nmX5 : ∀ a, a < 22 → ∀ b, b < 22 → a ≠ b → (TX5 a).2.1 ≠ (TX5 b).2.1 := by decide +kernel
theorem tyX5_ok : ∀ k, k < 22 → parseFieldDescriptor (TX5 k).2.2.1 = some (tyX5 k) := by decide +kernel
abbrev cX5_init : ByteArray := prog_7_method_1_code
def yX5_init : MethodName := ⟨RX5, "<init>", "()V"⟩
abbrev cX5_in : ByteArray := prog_7_method_3_code
def yX5_in : MethodName := ⟨RX5, "in", "(III)Z"⟩
abbrev cX5_isPlace : ByteArray := prog_7_method_4_code
def yX5_isPlace : MethodName := ⟨RX5, "isPlace", "(I)Z"⟩
abbrev cX5_made : ByteArray := prog_7_method_5_code
def yX5_made : MethodName := ⟨RX5, "made", "(I)I"⟩
abbrev cX5_thing : ByteArray := prog_7_method_6_code
def yX5_thing : MethodName := ⟨RX5, "thing", "(I)I"⟩
abbrev cX5_set : ByteArray := prog_7_method_7_code
def yX5_set : MethodName := ⟨RX5, "set", "(II)I"⟩
abbrev cX5_isBelow : ByteArray := prog_7_method_8_code
def yX5_isBelow : MethodName := ⟨RX5, "isBelow", "(II)Z"⟩
abbrev cX5_isRight : ByteArray := prog_7_method_9_code
def yX5_isRight : MethodName := ⟨RX5, "isRight", "(IIIII)Z"⟩
abbrev cX5_step : ByteArray := prog_7_method_10_code
def yX5_step : MethodName := ⟨RX5, "step", "(IIIII)I"⟩
abbrev cX5_clear : ByteArray := prog_7_method_11_code
def yX5_clear : MethodName := ⟨RX5, "clear", "(I)I"⟩
abbrev cX5_comes : ByteArray := prog_7_method_12_code
def yX5_comes : MethodName := ⟨RX5, "comes", "(I)V"⟩
abbrev cX5_begin : ByteArray := prog_7_method_13_code
def yX5_begin : MethodName := ⟨RX5, "begin", "(I)V"⟩
abbrev cX5_leave : ByteArray := prog_7_method_14_code
def yX5_leave : MethodName := ⟨RX5, "leave", "(II)V"⟩
abbrev cX5_throwing : ByteArray := prog_7_method_15_code
def yX5_throwing : MethodName := ⟨RX5, "throwing", "(I)I"⟩
abbrev cX5_block : ByteArray := prog_7_method_16_code
def yX5_block : MethodName := ⟨RX5, "block", "(I)I"⟩
abbrev cX5_hold : ByteArray := prog_7_method_17_code
def yX5_hold : MethodName := ⟨RX5, "hold", "(II)I"⟩
abbrev cX5_loop : ByteArray := prog_7_method_18_code
def yX5_loop : MethodName := ⟨RX5, "loop", "(II)I"⟩
abbrev cX5_both : ByteArray := prog_7_method_19_code
def yX5_both : MethodName := ⟨RX5, "both", "(II)I"⟩
abbrev cX5_call : ByteArray := prog_7_method_20_code
def yX5_call : MethodName := ⟨RX5, "call", "(I)I"⟩
abbrev cX5_tried : ByteArray := prog_7_method_21_code
def yX5_tried : MethodName := ⟨RX5, "tried", "(III)I"⟩
abbrev cX5_add : ByteArray := prog_7_method_22_code
def yX5_add : MethodName := ⟨RX5, "add", "(II)I"⟩
abbrev cX5_sweep : ByteArray := prog_7_method_23_code
def yX5_sweep : MethodName := ⟨RX5, "sweep", "(I)I"⟩
abbrev cX5_doStep : ByteArray := prog_7_method_24_code
def yX5_doStep : MethodName := ⟨RX5, "doStep", "(I)I"⟩
abbrev cX5_run : ByteArray := prog_7_method_25_code
def yX5_run : MethodName := ⟨RX5, "run", "()I"⟩
abbrev cX5_trace : ByteArray := prog_7_method_26_code
def yX5_trace : MethodName := ⟨RX5, "trace", "(I)I"⟩
abbrev cX5_told : ByteArray := prog_7_method_27_code
def yX5_told : MethodName := ⟨RX5, "told", "(I)I"⟩
abbrev cX5_at : ByteArray := prog_7_method_28_code
def yX5_at : MethodName := ⟨RX5, "at", "(I)I"⟩
abbrev cX5_number : ByteArray := prog_7_method_29_code
def yX5_number : MethodName := ⟨RX5, "number", "(I)I"⟩
abbrev cX5_count : ByteArray := prog_7_method_30_code
def yX5_count : MethodName := ⟨RX5, "count", "(I)I"⟩
def RJ9 : String := "java/lang/Math"
def TJ9 : u_T := fun k => match k with
  | _ => ("", "", "", false)
def tyJ9 : Nat → FieldType := fun k => match k with
  | _ => .int
abbrev wsJ90 : List Cond := u_ws RJ9 TJ9 0
theorem nmJ9 : ∀ a, a < 0 → ∀ b, b < 0 → a ≠ b → (TJ9 a).2.1 ≠ (TJ9 b).2.1 := by decide +kernel
theorem tyJ9_ok : ∀ k, k < 0 → parseFieldDescriptor (TJ9 k).2.2.1 = some (tyJ9 k) := by decide +kernel
abbrev cJ9_max_7cf53 : ByteArray := prog_8_method_65_code
def yJ9_max_7cf53 : MethodName := ⟨RJ9, "max", "(II)I"⟩
abbrev cJ9_min_7cf53 : ByteArray := prog_8_method_69_code
def yJ9_min_7cf53 : MethodName := ⟨RJ9, "min", "(II)I"⟩
def RJ7 : String := "java/util/Arrays"
def TJ7 : u_T := fun k => match k with
  | _ => ("", "", "", false)
def tyJ7 : Nat → FieldType := fun k => match k with
  | _ => .int
abbrev wsJ70 : List Cond := u_ws RJ7 TJ7 0
theorem nmJ7 : ∀ a, a < 0 → ∀ b, b < 0 → a ≠ b → (TJ7 a).2.1 ≠ (TJ7 b).2.1 := by decide +kernel
theorem tyJ7_ok : ∀ k, k < 0 → parseFieldDescriptor (TJ7 k).2.2.1 = some (tyJ7 k) := by decide +kernel
abbrev cJ7_fill_53178 : ByteArray := prog_9_method_103_code
def yJ7_fill_53178 : MethodName := ⟨RJ7, "fill", "([II)V"⟩
def RL : String := "HoldBenchLaw"
abbrev cL_law : ByteArray := code
def yL_law : MethodName := ⟨RL, "law", "([I)Z"⟩
def wsX0_init : List Cond := .code yX0_init cX0_init 2 none :: ([.methodLink RX0 3 objectInit, .instanceMethod objectInit, .code objectInit ⟨#[0xb1]⟩ 1 none, .arrayClass .int, .fieldLink RX0 9 "HoldBench$Program" "sizes" "[I", .fieldLink RX0 15 "HoldBench$Program" "kinds" "[I", .fieldLink RX0 18 "HoldBench$Program" "as" "[I", .fieldLink RX0 21 "HoldBench$Program" "xs" "[I", .fieldLink RX0 24 "HoldBench$Program" "ys" "[I", .fieldLink RX0 27 "HoldBench$Program" "total" "I"] ++ wsX00)
def wsX4_isWithin : List Cond := .code yX4_isWithin cX4_isWithin 3 (some .boolean) :: ([])
def wsX4_isBlock : List Cond := .code yX4_isBlock cX4_isBlock 1 (some .boolean) :: ([.methodLink RX4 109 yX4_isWithin, .static yX4_isWithin, .initialized RX4, .code yX4_isWithin cX4_isWithin 3 (some .boolean)])
def wsX0_append : List Cond := .code yX0_append cX0_append 7 (some .int) :: ([.fieldLink RX0 27 "HoldBench$Program" "total" "I", .fieldLink RX0 9 "HoldBench$Program" "sizes" "[I", .fieldLink RX0 15 "HoldBench$Program" "kinds" "[I", .fieldLink RX0 18 "HoldBench$Program" "as" "[I", .fieldLink RX0 21 "HoldBench$Program" "xs" "[I", .fieldLink RX0 24 "HoldBench$Program" "ys" "[I", .static yX4_isBlock, .initialized RX4, .code yX4_isBlock cX4_isBlock 1 (some .boolean), .methodLink RX4 109 yX4_isWithin, .static yX4_isWithin, .code yX4_isWithin cX4_isWithin 3 (some .boolean)] ++ wsX00)
def wsX0_empty : List Cond := .code yX0_empty cX0_empty 3 (some .int) :: ([.fieldLink RX0 9 "HoldBench$Program" "sizes" "[I", .fieldLink RX0 27 "HoldBench$Program" "total" "I", .static yX4_isBlock, .initialized RX4, .code yX4_isBlock cX4_isBlock 1 (some .boolean), .methodLink RX4 109 yX4_isWithin, .static yX4_isWithin, .code yX4_isWithin cX4_isWithin 3 (some .boolean)] ++ wsX00)
def wsX1_init : List Cond := .code yX1_init cX1_init 4 none :: ([.methodLink RX1 3 objectInit, .instanceMethod objectInit, .code objectInit ⟨#[0xb1]⟩ 1 none, .fieldLink RX1 9 "HoldBench$Runner" "shelf" "LHoldBench$Shelf;", .fieldLink RX1 15 "HoldBench$Runner" "program" "LHoldBench$Program;", .fieldLink RX1 19 "HoldBench$Runner" "tally" "LHoldBench$Tally;", .fieldLink RX1 23 "HoldBench$Runner" "refused" "I"] ++ wsX10)
def wsX4_isPlace : List Cond := .code yX4_isPlace cX4_isPlace 1 (some .boolean) :: ([.methodLink RX4 109 yX4_isWithin, .static yX4_isWithin, .initialized RX4, .code yX4_isWithin cX4_isWithin 3 (some .boolean)])
def wsX2_thingIn : List Cond := .code yX2_thingIn cX2_thingIn 2 (some .int) :: ([.fieldLink RX2 9 "HoldBench$Shelf" "places" "[I", .static yX4_isPlace, .initialized RX4, .code yX4_isPlace cX4_isPlace 1 (some .boolean), .methodLink RX4 109 yX4_isWithin, .static yX4_isWithin, .code yX4_isWithin cX4_isWithin 3 (some .boolean)] ++ wsX20)
def wsX2_isThing : List Cond := .code yX2_isThing cX2_isThing 2 (some .boolean) :: ([.fieldLink RX2 27 "HoldBench$Shelf" "made" "I"] ++ wsX20)
def wsX2_deepen : List Cond := .code yX2_deepen cX2_deepen 3 none :: ([.fieldLink RX2 24 "HoldBench$Shelf" "depths" "[I", .methodLink RX2 39 yX2_isThing, .instanceMethod yX2_isThing, .selects RX2 yX2_isThing yX2_isThing, .initialized RX2, .code yX2_isThing cX2_isThing 2 (some .boolean), .fieldLink RX2 27 "HoldBench$Shelf" "made" "I"] ++ wsX20)
def wsX3_enter : List Cond := .code yX3_enter cX3_enter 2 none :: ([.fieldLink RX3 18 "HoldBench$Tally" "entered" "I", .fieldLink RX3 9 "HoldBench$Tally" "entries" "[I"] ++ wsX30)
def wsX3_enterBegun : List Cond := .code yX3_enterBegun cX3_enterBegun 2 none :: ([.fieldLink RX3 25 "HoldBench$Tally" "holds" "I", .fieldLink RX3 28 "HoldBench$Tally" "underWay" "I", .fieldLink RX3 31 "HoldBench$Tally" "most" "I", .methodLink RX3 51 Lib.Math.max.name, .static Lib.Math.max.name, .initialized "java/lang/Math", .code Lib.Math.max.name Lib.Math.max.code 2 (some .int), .methodLink RX3 47 yX3_enter, .instanceMethod yX3_enter, .selects RX3 yX3_enter yX3_enter, .initialized RX3, .code yX3_enter cX3_enter 2 none, .fieldLink RX3 18 "HoldBench$Tally" "entered" "I", .fieldLink RX3 9 "HoldBench$Tally" "entries" "[I"] ++ wsX30)
def wsX1_beginHold_r1 : List Cond := [Cond.fieldLink RX1 9 "HoldBench$Runner" "shelf" "LHoldBench$Shelf;", Cond.fieldLink RX1 19 "HoldBench$Runner" "tally" "LHoldBench$Tally;", Cond.instanceMethod yX2_deepen, Cond.initialized RX2, Cond.selects RX2 yX2_deepen yX2_deepen, Cond.code yX2_deepen cX2_deepen 3 none, Cond.fieldLink RX2 24 "HoldBench$Shelf" "depths" "[I", Cond.methodLink RX2 39 yX2_isThing, Cond.instanceMethod yX2_isThing, Cond.selects RX2 yX2_isThing yX2_isThing, Cond.code yX2_isThing cX2_isThing 2 (some .boolean), Cond.fieldLink RX2 27 "HoldBench$Shelf" "made" "I", Cond.instanceMethod yX3_enterBegun, Cond.initialized RX3, Cond.selects RX3 yX3_enterBegun yX3_enterBegun, Cond.code yX3_enterBegun cX3_enterBegun 2 none, Cond.fieldLink RX3 25 "HoldBench$Tally" "holds" "I", Cond.fieldLink RX3 28 "HoldBench$Tally" "underWay" "I", Cond.fieldLink RX3 31 "HoldBench$Tally" "most" "I", Cond.methodLink RX3 51 Lib.Math.max.name, Cond.static Lib.Math.max.name, Cond.initialized "java/lang/Math", Cond.code Lib.Math.max.name Lib.Math.max.code 2 (some .int), Cond.methodLink RX3 47 yX3_enter]
def wsX1_beginHold_r2 : List Cond := [Cond.instanceMethod yX3_enter, Cond.selects RX3 yX3_enter yX3_enter, Cond.code yX3_enter cX3_enter 2 none, Cond.fieldLink RX3 18 "HoldBench$Tally" "entered" "I", Cond.fieldLink RX3 9 "HoldBench$Tally" "entries" "[I"]
def wsX1_beginHold : List Cond := .code yX1_beginHold cX1_beginHold 2 none :: ((wsX1_beginHold_r1 ++ wsX1_beginHold_r2) ++ wsX10 ++ wsX20 ++ wsX30)
def wsX4_isThrown : List Cond := .code yX4_isThrown cX4_isThrown 1 (some .boolean) :: ([])
def wsX3_enterLeft : List Cond := .code yX3_enterLeft cX3_enterLeft 3 none :: ([.fieldLink RX3 28 "HoldBench$Tally" "underWay" "I", .fieldLink RX3 34 "HoldBench$Tally" "cutShort" "I", .methodLink RX3 47 yX3_enter, .instanceMethod yX3_enter, .selects RX3 yX3_enter yX3_enter, .initialized RX3, .code yX3_enter cX3_enter 2 none, .fieldLink RX3 18 "HoldBench$Tally" "entered" "I", .fieldLink RX3 9 "HoldBench$Tally" "entries" "[I"] ++ wsX30)
def wsX1_leaveHold : List Cond := .code yX1_leaveHold cX1_leaveHold 3 none :: ([.fieldLink RX1 9 "HoldBench$Runner" "shelf" "LHoldBench$Shelf;", .fieldLink RX1 19 "HoldBench$Runner" "tally" "LHoldBench$Tally;", .instanceMethod yX2_deepen, .initialized RX2, .selects RX2 yX2_deepen yX2_deepen, .code yX2_deepen cX2_deepen 3 none, .fieldLink RX2 24 "HoldBench$Shelf" "depths" "[I", .methodLink RX2 39 yX2_isThing, .instanceMethod yX2_isThing, .selects RX2 yX2_isThing yX2_isThing, .code yX2_isThing cX2_isThing 2 (some .boolean), .fieldLink RX2 27 "HoldBench$Shelf" "made" "I", .instanceMethod yX3_enterLeft, .initialized RX3, .selects RX3 yX3_enterLeft yX3_enterLeft, .code yX3_enterLeft cX3_enterLeft 3 none, .fieldLink RX3 28 "HoldBench$Tally" "underWay" "I", .fieldLink RX3 34 "HoldBench$Tally" "cutShort" "I", .methodLink RX3 47 yX3_enter, .instanceMethod yX3_enter, .selects RX3 yX3_enter yX3_enter, .code yX3_enter cX3_enter 2 none, .fieldLink RX3 18 "HoldBench$Tally" "entered" "I", .fieldLink RX3 9 "HoldBench$Tally" "entries" "[I"] ++ wsX10 ++ wsX20 ++ wsX30)
def wsX3_enterMark : List Cond := .code yX3_enterMark cX3_enterMark 2 none :: ([.methodLink RX3 47 yX3_enter, .instanceMethod yX3_enter, .selects RX3 yX3_enter yX3_enter, .initialized RX3, .code yX3_enter cX3_enter 2 none, .fieldLink RX3 18 "HoldBench$Tally" "entered" "I", .fieldLink RX3 9 "HoldBench$Tally" "entries" "[I"] ++ wsX30)
def wsX2_isHeld : List Cond := .code yX2_isHeld cX2_isHeld 2 (some .boolean) :: ([.fieldLink RX2 24 "HoldBench$Shelf" "depths" "[I", .methodLink RX2 39 yX2_isThing, .instanceMethod yX2_isThing, .selects RX2 yX2_isThing yX2_isThing, .initialized RX2, .code yX2_isThing cX2_isThing 2 (some .boolean), .fieldLink RX2 27 "HoldBench$Shelf" "made" "I"] ++ wsX20)
def wsX2_raiseNumber : List Cond := .code yX2_raiseNumber cX2_raiseNumber 3 none :: ([.fieldLink RX2 21 "HoldBench$Shelf" "numbers" "[I", .methodLink RX2 39 yX2_isThing, .instanceMethod yX2_isThing, .selects RX2 yX2_isThing yX2_isThing, .initialized RX2, .code yX2_isThing cX2_isThing 2 (some .boolean), .fieldLink RX2 27 "HoldBench$Shelf" "made" "I"] ++ wsX20)
def wsX1_doAdd_r1 : List Cond := [Cond.fieldLink RX1 9 "HoldBench$Runner" "shelf" "LHoldBench$Shelf;", Cond.instanceMethod yX2_thingIn, Cond.initialized RX2, Cond.selects RX2 yX2_thingIn yX2_thingIn, Cond.code yX2_thingIn cX2_thingIn 2 (some .int), Cond.fieldLink RX2 9 "HoldBench$Shelf" "places" "[I", Cond.static yX4_isPlace, Cond.initialized RX4, Cond.code yX4_isPlace cX4_isPlace 1 (some .boolean), Cond.methodLink RX4 109 yX4_isWithin, Cond.static yX4_isWithin, Cond.code yX4_isWithin cX4_isWithin 3 (some .boolean), Cond.instanceMethod yX2_isHeld, Cond.selects RX2 yX2_isHeld yX2_isHeld, Cond.code yX2_isHeld cX2_isHeld 2 (some .boolean), Cond.fieldLink RX2 24 "HoldBench$Shelf" "depths" "[I", Cond.methodLink RX2 39 yX2_isThing, Cond.instanceMethod yX2_isThing, Cond.selects RX2 yX2_isThing yX2_isThing, Cond.code yX2_isThing cX2_isThing 2 (some .boolean), Cond.fieldLink RX2 27 "HoldBench$Shelf" "made" "I", Cond.instanceMethod yX2_raiseNumber, Cond.selects RX2 yX2_raiseNumber yX2_raiseNumber, Cond.code yX2_raiseNumber cX2_raiseNumber 3 none]
def wsX1_doAdd_r2 : List Cond := [Cond.fieldLink RX2 21 "HoldBench$Shelf" "numbers" "[I"]
def wsX1_doAdd : List Cond := .code yX1_doAdd cX1_doAdd 4 (some .int) :: ((wsX1_doAdd_r1 ++ wsX1_doAdd_r2) ++ wsX10 ++ wsX20)
def wsX2_put : List Cond := .code yX2_put cX2_put 3 none :: ([.fieldLink RX2 9 "HoldBench$Shelf" "places" "[I", .static yX4_isPlace, .initialized RX4, .code yX4_isPlace cX4_isPlace 1 (some .boolean), .methodLink RX4 109 yX4_isWithin, .static yX4_isWithin, .code yX4_isWithin cX4_isWithin 3 (some .boolean)] ++ wsX20)
def wsX2_makeThing : List Cond := .code yX2_makeThing cX2_makeThing 3 (some .int) :: ([.fieldLink RX2 27 "HoldBench$Shelf" "made" "I", .methodLink RX2 31 yX2_put, .instanceMethod yX2_put, .selects RX2 yX2_put yX2_put, .initialized RX2, .code yX2_put cX2_put 3 none, .fieldLink RX2 9 "HoldBench$Shelf" "places" "[I", .static yX4_isPlace, .initialized RX4, .code yX4_isPlace cX4_isPlace 1 (some .boolean), .methodLink RX4 109 yX4_isWithin, .static yX4_isWithin, .code yX4_isWithin cX4_isWithin 3 (some .boolean)] ++ wsX20)
def wsX1_doNew : List Cond := .code yX1_doNew cX1_doNew 2 (some .int) :: ([.fieldLink RX1 9 "HoldBench$Runner" "shelf" "LHoldBench$Shelf;", .instanceMethod yX2_makeThing, .initialized RX2, .selects RX2 yX2_makeThing yX2_makeThing, .code yX2_makeThing cX2_makeThing 3 (some .int), .fieldLink RX2 27 "HoldBench$Shelf" "made" "I", .methodLink RX2 31 yX2_put, .instanceMethod yX2_put, .selects RX2 yX2_put yX2_put, .code yX2_put cX2_put 3 none, .fieldLink RX2 9 "HoldBench$Shelf" "places" "[I", .static yX4_isPlace, .initialized RX4, .code yX4_isPlace cX4_isPlace 1 (some .boolean), .methodLink RX4 109 yX4_isWithin, .static yX4_isWithin, .code yX4_isWithin cX4_isWithin 3 (some .boolean)] ++ wsX10 ++ wsX20)
def wsX2_numberOf : List Cond := .code yX2_numberOf cX2_numberOf 2 (some .int) :: ([.fieldLink RX2 21 "HoldBench$Shelf" "numbers" "[I", .methodLink RX2 39 yX2_isThing, .instanceMethod yX2_isThing, .selects RX2 yX2_isThing yX2_isThing, .initialized RX2, .code yX2_isThing cX2_isThing 2 (some .boolean), .fieldLink RX2 27 "HoldBench$Shelf" "made" "I"] ++ wsX20)
def wsX1_doSweep_r1 : List Cond := [Cond.fieldLink RX1 9 "HoldBench$Runner" "shelf" "LHoldBench$Shelf;", Cond.fieldLink RX1 19 "HoldBench$Runner" "tally" "LHoldBench$Tally;", Cond.instanceMethod yX2_thingIn, Cond.initialized RX2, Cond.selects RX2 yX2_thingIn yX2_thingIn, Cond.code yX2_thingIn cX2_thingIn 2 (some .int), Cond.fieldLink RX2 9 "HoldBench$Shelf" "places" "[I", Cond.static yX4_isPlace, Cond.initialized RX4, Cond.code yX4_isPlace cX4_isPlace 1 (some .boolean), Cond.methodLink RX4 109 yX4_isWithin, Cond.static yX4_isWithin, Cond.code yX4_isWithin cX4_isWithin 3 (some .boolean), Cond.methodLink RX1 105 yX1_beginHold, Cond.instanceMethod yX1_beginHold, Cond.selects RX1 yX1_beginHold yX1_beginHold, Cond.initialized RX1, Cond.code yX1_beginHold cX1_beginHold 2 none, Cond.instanceMethod yX2_deepen, Cond.selects RX2 yX2_deepen yX2_deepen, Cond.code yX2_deepen cX2_deepen 3 none, Cond.fieldLink RX2 24 "HoldBench$Shelf" "depths" "[I", Cond.methodLink RX2 39 yX2_isThing, Cond.instanceMethod yX2_isThing]
def wsX1_doSweep_r2 : List Cond := [Cond.selects RX2 yX2_isThing yX2_isThing, Cond.code yX2_isThing cX2_isThing 2 (some .boolean), Cond.fieldLink RX2 27 "HoldBench$Shelf" "made" "I", Cond.instanceMethod yX3_enterBegun, Cond.initialized RX3, Cond.selects RX3 yX3_enterBegun yX3_enterBegun, Cond.code yX3_enterBegun cX3_enterBegun 2 none, Cond.fieldLink RX3 25 "HoldBench$Tally" "holds" "I", Cond.fieldLink RX3 28 "HoldBench$Tally" "underWay" "I", Cond.fieldLink RX3 31 "HoldBench$Tally" "most" "I", Cond.methodLink RX3 51 Lib.Math.max.name, Cond.static Lib.Math.max.name, Cond.initialized "java/lang/Math", Cond.code Lib.Math.max.name Lib.Math.max.code 2 (some .int), Cond.methodLink RX3 47 yX3_enter, Cond.instanceMethod yX3_enter, Cond.selects RX3 yX3_enter yX3_enter, Cond.code yX3_enter cX3_enter 2 none, Cond.fieldLink RX3 18 "HoldBench$Tally" "entered" "I", Cond.fieldLink RX3 9 "HoldBench$Tally" "entries" "[I", Cond.instanceMethod yX2_numberOf, Cond.selects RX2 yX2_numberOf yX2_numberOf, Cond.code yX2_numberOf cX2_numberOf 2 (some .int), Cond.fieldLink RX2 21 "HoldBench$Shelf" "numbers" "[I"]
def wsX1_doSweep_r3 : List Cond := [Cond.methodLink RX1 114 yX1_leaveHold, Cond.instanceMethod yX1_leaveHold, Cond.selects RX1 yX1_leaveHold yX1_leaveHold, Cond.code yX1_leaveHold cX1_leaveHold 3 none, Cond.instanceMethod yX3_enterLeft, Cond.selects RX3 yX3_enterLeft yX3_enterLeft, Cond.code yX3_enterLeft cX3_enterLeft 3 none, Cond.fieldLink RX3 34 "HoldBench$Tally" "cutShort" "I", Cond.instanceMethod yX3_enterMark, Cond.selects RX3 yX3_enterMark yX3_enterMark, Cond.code yX3_enterMark cX3_enterMark 2 none]
def wsX1_doSweep : List Cond := .code yX1_doSweep cX1_doSweep 7 none :: ((wsX1_doSweep_r1 ++ (wsX1_doSweep_r2 ++ wsX1_doSweep_r3)) ++ wsX10 ++ wsX20 ++ wsX30)
def wsX1_doBlock_r1 : List Cond := [Cond.fieldLink RX1 15 "HoldBench$Runner" "program" "LHoldBench$Program;", Cond.methodLink RX1 37 Lib.Math.min.name, Cond.static Lib.Math.min.name, Cond.initialized "java/lang/Math", Cond.code Lib.Math.min.name Lib.Math.min.code 2 (some .int), Cond.static yX4_isBlock, Cond.initialized RX4, Cond.code yX4_isBlock cX4_isBlock 1 (some .boolean), Cond.methodLink RX4 109 yX4_isWithin, Cond.static yX4_isWithin, Cond.code yX4_isWithin cX4_isWithin 3 (some .boolean), Cond.methodLink RX1 43 yX1_doStep, Cond.instanceMethod yX1_doStep, Cond.selects RX1 yX1_doStep yX1_doStep, Cond.initialized RX1, Cond.code yX1_doBoth cX1_doBoth 7 (some .int), Cond.methodLink RX1 108 yX1_doBlock, Cond.instanceMethod yX1_doBlock, Cond.selects RX1 yX1_doBlock yX1_doBlock, Cond.code yX1_doCall cX1_doCall 4 (some .int), Cond.code yX1_doHold cX1_doHold 7 (some .int), Cond.fieldLink RX1 9 "HoldBench$Runner" "shelf" "LHoldBench$Shelf;", Cond.fieldLink RX1 23 "HoldBench$Runner" "refused" "I", Cond.instanceMethod yX2_thingIn]
def wsX1_doBlock_r2 : List Cond := [Cond.initialized RX2, Cond.selects RX2 yX2_thingIn yX2_thingIn, Cond.code yX2_thingIn cX2_thingIn 2 (some .int), Cond.fieldLink RX2 9 "HoldBench$Shelf" "places" "[I", Cond.static yX4_isPlace, Cond.code yX4_isPlace cX4_isPlace 1 (some .boolean), Cond.methodLink RX1 105 yX1_beginHold, Cond.instanceMethod yX1_beginHold, Cond.selects RX1 yX1_beginHold yX1_beginHold, Cond.code yX1_beginHold cX1_beginHold 2 none, Cond.fieldLink RX1 19 "HoldBench$Runner" "tally" "LHoldBench$Tally;", Cond.instanceMethod yX2_deepen, Cond.selects RX2 yX2_deepen yX2_deepen, Cond.code yX2_deepen cX2_deepen 3 none, Cond.fieldLink RX2 24 "HoldBench$Shelf" "depths" "[I", Cond.methodLink RX2 39 yX2_isThing, Cond.instanceMethod yX2_isThing, Cond.selects RX2 yX2_isThing yX2_isThing, Cond.code yX2_isThing cX2_isThing 2 (some .boolean), Cond.fieldLink RX2 27 "HoldBench$Shelf" "made" "I", Cond.instanceMethod yX3_enterBegun, Cond.initialized RX3, Cond.selects RX3 yX3_enterBegun yX3_enterBegun, Cond.code yX3_enterBegun cX3_enterBegun 2 none]
def wsX1_doBlock_r3 : List Cond := [Cond.fieldLink RX3 25 "HoldBench$Tally" "holds" "I", Cond.fieldLink RX3 28 "HoldBench$Tally" "underWay" "I", Cond.fieldLink RX3 31 "HoldBench$Tally" "most" "I", Cond.methodLink RX3 51 Lib.Math.max.name, Cond.static Lib.Math.max.name, Cond.code Lib.Math.max.name Lib.Math.max.code 2 (some .int), Cond.methodLink RX3 47 yX3_enter, Cond.instanceMethod yX3_enter, Cond.selects RX3 yX3_enter yX3_enter, Cond.code yX3_enter cX3_enter 2 none, Cond.fieldLink RX3 18 "HoldBench$Tally" "entered" "I", Cond.fieldLink RX3 9 "HoldBench$Tally" "entries" "[I", Cond.static yX4_isThrown, Cond.code yX4_isThrown cX4_isThrown 1 (some .boolean), Cond.methodLink RX1 114 yX1_leaveHold, Cond.instanceMethod yX1_leaveHold, Cond.selects RX1 yX1_leaveHold yX1_leaveHold, Cond.code yX1_leaveHold cX1_leaveHold 3 none, Cond.instanceMethod yX3_enterLeft, Cond.selects RX3 yX3_enterLeft yX3_enterLeft, Cond.code yX3_enterLeft cX3_enterLeft 3 none, Cond.fieldLink RX3 34 "HoldBench$Tally" "cutShort" "I", Cond.code yX1_doLoop cX1_doLoop 7 (some .int), Cond.code yX1_doStep cX1_doStep 7 (some .int)]
def wsX1_doBlock_r4 : List Cond := [Cond.instanceMethod yX3_enterMark, Cond.selects RX3 yX3_enterMark yX3_enterMark, Cond.code yX3_enterMark cX3_enterMark 2 none, Cond.methodLink RX1 68 yX1_doHold, Cond.instanceMethod yX1_doHold, Cond.selects RX1 yX1_doHold yX1_doHold, Cond.methodLink RX1 72 yX1_doLoop, Cond.instanceMethod yX1_doLoop, Cond.selects RX1 yX1_doLoop yX1_doLoop, Cond.methodLink RX1 76 yX1_doTry, Cond.instanceMethod yX1_doTry, Cond.selects RX1 yX1_doTry yX1_doTry, Cond.methodLink RX1 80 yX1_doBoth, Cond.instanceMethod yX1_doBoth, Cond.selects RX1 yX1_doBoth yX1_doBoth, Cond.methodLink RX1 83 yX1_doCall, Cond.instanceMethod yX1_doCall, Cond.selects RX1 yX1_doCall yX1_doCall, Cond.methodLink RX1 86 yX1_doAdd, Cond.instanceMethod yX1_doAdd, Cond.selects RX1 yX1_doAdd yX1_doAdd, Cond.code yX1_doAdd cX1_doAdd 4 (some .int), Cond.instanceMethod yX2_isHeld, Cond.selects RX2 yX2_isHeld yX2_isHeld]
def wsX1_doBlock_r5 : List Cond := [Cond.code yX2_isHeld cX2_isHeld 2 (some .boolean), Cond.instanceMethod yX2_raiseNumber, Cond.selects RX2 yX2_raiseNumber yX2_raiseNumber, Cond.code yX2_raiseNumber cX2_raiseNumber 3 none, Cond.fieldLink RX2 21 "HoldBench$Shelf" "numbers" "[I", Cond.instanceMethod yX2_put, Cond.selects RX2 yX2_put yX2_put, Cond.code yX2_put cX2_put 3 none, Cond.methodLink RX1 99 yX1_doNew, Cond.instanceMethod yX1_doNew, Cond.selects RX1 yX1_doNew yX1_doNew, Cond.code yX1_doNew cX1_doNew 2 (some .int), Cond.instanceMethod yX2_makeThing, Cond.selects RX2 yX2_makeThing yX2_makeThing, Cond.code yX2_makeThing cX2_makeThing 3 (some .int), Cond.methodLink RX2 31 yX2_put, Cond.methodLink RX1 102 yX1_doSweep, Cond.instanceMethod yX1_doSweep, Cond.selects RX1 yX1_doSweep yX1_doSweep, Cond.code yX1_doSweep cX1_doSweep 7 none, Cond.instanceMethod yX2_numberOf, Cond.selects RX2 yX2_numberOf yX2_numberOf, Cond.code yX2_numberOf cX2_numberOf 2 (some .int), Cond.code yX1_doTry cX1_doTry 8 (some .int)]
def wsX1_doBlock : List Cond := .code yX1_doBlock cX1_doBlock 7 (some .int) :: ((wsX1_doBlock_r1 ++ (wsX1_doBlock_r2 ++ (wsX1_doBlock_r3 ++ (wsX1_doBlock_r4 ++ wsX1_doBlock_r5)))) ++ wsX10 ++ wsX00 ++ wsX20 ++ wsX30)
def wsX1_doBoth_r1 : List Cond := [Cond.methodLink RX1 108 yX1_doBlock, Cond.instanceMethod yX1_doBlock, Cond.selects RX1 yX1_doBlock yX1_doBlock, Cond.initialized RX1, Cond.code yX1_doBlock cX1_doBlock 7 (some .int), Cond.fieldLink RX1 15 "HoldBench$Runner" "program" "LHoldBench$Program;", Cond.methodLink RX1 37 Lib.Math.min.name, Cond.static Lib.Math.min.name, Cond.initialized "java/lang/Math", Cond.code Lib.Math.min.name Lib.Math.min.code 2 (some .int), Cond.static yX4_isBlock, Cond.initialized RX4, Cond.code yX4_isBlock cX4_isBlock 1 (some .boolean), Cond.methodLink RX4 109 yX4_isWithin, Cond.static yX4_isWithin, Cond.code yX4_isWithin cX4_isWithin 3 (some .boolean), Cond.methodLink RX1 43 yX1_doStep, Cond.instanceMethod yX1_doStep, Cond.selects RX1 yX1_doStep yX1_doStep, Cond.code yX1_doCall cX1_doCall 4 (some .int), Cond.code yX1_doHold cX1_doHold 7 (some .int), Cond.fieldLink RX1 9 "HoldBench$Runner" "shelf" "LHoldBench$Shelf;", Cond.fieldLink RX1 23 "HoldBench$Runner" "refused" "I", Cond.instanceMethod yX2_thingIn]
def wsX1_doBoth_r2 : List Cond := [Cond.initialized RX2, Cond.selects RX2 yX2_thingIn yX2_thingIn, Cond.code yX2_thingIn cX2_thingIn 2 (some .int), Cond.fieldLink RX2 9 "HoldBench$Shelf" "places" "[I", Cond.static yX4_isPlace, Cond.code yX4_isPlace cX4_isPlace 1 (some .boolean), Cond.methodLink RX1 105 yX1_beginHold, Cond.instanceMethod yX1_beginHold, Cond.selects RX1 yX1_beginHold yX1_beginHold, Cond.code yX1_beginHold cX1_beginHold 2 none, Cond.fieldLink RX1 19 "HoldBench$Runner" "tally" "LHoldBench$Tally;", Cond.instanceMethod yX2_deepen, Cond.selects RX2 yX2_deepen yX2_deepen, Cond.code yX2_deepen cX2_deepen 3 none, Cond.fieldLink RX2 24 "HoldBench$Shelf" "depths" "[I", Cond.methodLink RX2 39 yX2_isThing, Cond.instanceMethod yX2_isThing, Cond.selects RX2 yX2_isThing yX2_isThing, Cond.code yX2_isThing cX2_isThing 2 (some .boolean), Cond.fieldLink RX2 27 "HoldBench$Shelf" "made" "I", Cond.instanceMethod yX3_enterBegun, Cond.initialized RX3, Cond.selects RX3 yX3_enterBegun yX3_enterBegun, Cond.code yX3_enterBegun cX3_enterBegun 2 none]
def wsX1_doBoth_r3 : List Cond := [Cond.fieldLink RX3 25 "HoldBench$Tally" "holds" "I", Cond.fieldLink RX3 28 "HoldBench$Tally" "underWay" "I", Cond.fieldLink RX3 31 "HoldBench$Tally" "most" "I", Cond.methodLink RX3 51 Lib.Math.max.name, Cond.static Lib.Math.max.name, Cond.code Lib.Math.max.name Lib.Math.max.code 2 (some .int), Cond.methodLink RX3 47 yX3_enter, Cond.instanceMethod yX3_enter, Cond.selects RX3 yX3_enter yX3_enter, Cond.code yX3_enter cX3_enter 2 none, Cond.fieldLink RX3 18 "HoldBench$Tally" "entered" "I", Cond.fieldLink RX3 9 "HoldBench$Tally" "entries" "[I", Cond.static yX4_isThrown, Cond.code yX4_isThrown cX4_isThrown 1 (some .boolean), Cond.methodLink RX1 114 yX1_leaveHold, Cond.instanceMethod yX1_leaveHold, Cond.selects RX1 yX1_leaveHold yX1_leaveHold, Cond.code yX1_leaveHold cX1_leaveHold 3 none, Cond.instanceMethod yX3_enterLeft, Cond.selects RX3 yX3_enterLeft yX3_enterLeft, Cond.code yX3_enterLeft cX3_enterLeft 3 none, Cond.fieldLink RX3 34 "HoldBench$Tally" "cutShort" "I", Cond.code yX1_doLoop cX1_doLoop 7 (some .int), Cond.code yX1_doStep cX1_doStep 7 (some .int)]
def wsX1_doBoth_r4 : List Cond := [Cond.instanceMethod yX3_enterMark, Cond.selects RX3 yX3_enterMark yX3_enterMark, Cond.code yX3_enterMark cX3_enterMark 2 none, Cond.methodLink RX1 68 yX1_doHold, Cond.instanceMethod yX1_doHold, Cond.selects RX1 yX1_doHold yX1_doHold, Cond.methodLink RX1 72 yX1_doLoop, Cond.instanceMethod yX1_doLoop, Cond.selects RX1 yX1_doLoop yX1_doLoop, Cond.methodLink RX1 76 yX1_doTry, Cond.instanceMethod yX1_doTry, Cond.selects RX1 yX1_doTry yX1_doTry, Cond.methodLink RX1 80 yX1_doBoth, Cond.instanceMethod yX1_doBoth, Cond.selects RX1 yX1_doBoth yX1_doBoth, Cond.methodLink RX1 83 yX1_doCall, Cond.instanceMethod yX1_doCall, Cond.selects RX1 yX1_doCall yX1_doCall, Cond.methodLink RX1 86 yX1_doAdd, Cond.instanceMethod yX1_doAdd, Cond.selects RX1 yX1_doAdd yX1_doAdd, Cond.code yX1_doAdd cX1_doAdd 4 (some .int), Cond.instanceMethod yX2_isHeld, Cond.selects RX2 yX2_isHeld yX2_isHeld]
def wsX1_doBoth_r5 : List Cond := [Cond.code yX2_isHeld cX2_isHeld 2 (some .boolean), Cond.instanceMethod yX2_raiseNumber, Cond.selects RX2 yX2_raiseNumber yX2_raiseNumber, Cond.code yX2_raiseNumber cX2_raiseNumber 3 none, Cond.fieldLink RX2 21 "HoldBench$Shelf" "numbers" "[I", Cond.instanceMethod yX2_put, Cond.selects RX2 yX2_put yX2_put, Cond.code yX2_put cX2_put 3 none, Cond.methodLink RX1 99 yX1_doNew, Cond.instanceMethod yX1_doNew, Cond.selects RX1 yX1_doNew yX1_doNew, Cond.code yX1_doNew cX1_doNew 2 (some .int), Cond.instanceMethod yX2_makeThing, Cond.selects RX2 yX2_makeThing yX2_makeThing, Cond.code yX2_makeThing cX2_makeThing 3 (some .int), Cond.methodLink RX2 31 yX2_put, Cond.methodLink RX1 102 yX1_doSweep, Cond.instanceMethod yX1_doSweep, Cond.selects RX1 yX1_doSweep yX1_doSweep, Cond.code yX1_doSweep cX1_doSweep 7 none, Cond.instanceMethod yX2_numberOf, Cond.selects RX2 yX2_numberOf yX2_numberOf, Cond.code yX2_numberOf cX2_numberOf 2 (some .int), Cond.code yX1_doTry cX1_doTry 8 (some .int)]
def wsX1_doBoth : List Cond := .code yX1_doBoth cX1_doBoth 7 (some .int) :: ((wsX1_doBoth_r1 ++ (wsX1_doBoth_r2 ++ (wsX1_doBoth_r3 ++ (wsX1_doBoth_r4 ++ wsX1_doBoth_r5)))) ++ wsX10 ++ wsX00 ++ wsX20 ++ wsX30)
def wsX1_doCall_r1 : List Cond := [Cond.methodLink RX1 108 yX1_doBlock, Cond.instanceMethod yX1_doBlock, Cond.selects RX1 yX1_doBlock yX1_doBlock, Cond.initialized RX1, Cond.code yX1_doBlock cX1_doBlock 7 (some .int), Cond.fieldLink RX1 15 "HoldBench$Runner" "program" "LHoldBench$Program;", Cond.methodLink RX1 37 Lib.Math.min.name, Cond.static Lib.Math.min.name, Cond.initialized "java/lang/Math", Cond.code Lib.Math.min.name Lib.Math.min.code 2 (some .int), Cond.static yX4_isBlock, Cond.initialized RX4, Cond.code yX4_isBlock cX4_isBlock 1 (some .boolean), Cond.methodLink RX4 109 yX4_isWithin, Cond.static yX4_isWithin, Cond.code yX4_isWithin cX4_isWithin 3 (some .boolean), Cond.methodLink RX1 43 yX1_doStep, Cond.instanceMethod yX1_doStep, Cond.selects RX1 yX1_doStep yX1_doStep, Cond.code yX1_doBoth cX1_doBoth 7 (some .int), Cond.code yX1_doHold cX1_doHold 7 (some .int), Cond.fieldLink RX1 9 "HoldBench$Runner" "shelf" "LHoldBench$Shelf;", Cond.fieldLink RX1 23 "HoldBench$Runner" "refused" "I", Cond.instanceMethod yX2_thingIn]
def wsX1_doCall_r2 : List Cond := [Cond.initialized RX2, Cond.selects RX2 yX2_thingIn yX2_thingIn, Cond.code yX2_thingIn cX2_thingIn 2 (some .int), Cond.fieldLink RX2 9 "HoldBench$Shelf" "places" "[I", Cond.static yX4_isPlace, Cond.code yX4_isPlace cX4_isPlace 1 (some .boolean), Cond.methodLink RX1 105 yX1_beginHold, Cond.instanceMethod yX1_beginHold, Cond.selects RX1 yX1_beginHold yX1_beginHold, Cond.code yX1_beginHold cX1_beginHold 2 none, Cond.fieldLink RX1 19 "HoldBench$Runner" "tally" "LHoldBench$Tally;", Cond.instanceMethod yX2_deepen, Cond.selects RX2 yX2_deepen yX2_deepen, Cond.code yX2_deepen cX2_deepen 3 none, Cond.fieldLink RX2 24 "HoldBench$Shelf" "depths" "[I", Cond.methodLink RX2 39 yX2_isThing, Cond.instanceMethod yX2_isThing, Cond.selects RX2 yX2_isThing yX2_isThing, Cond.code yX2_isThing cX2_isThing 2 (some .boolean), Cond.fieldLink RX2 27 "HoldBench$Shelf" "made" "I", Cond.instanceMethod yX3_enterBegun, Cond.initialized RX3, Cond.selects RX3 yX3_enterBegun yX3_enterBegun, Cond.code yX3_enterBegun cX3_enterBegun 2 none]
def wsX1_doCall_r3 : List Cond := [Cond.fieldLink RX3 25 "HoldBench$Tally" "holds" "I", Cond.fieldLink RX3 28 "HoldBench$Tally" "underWay" "I", Cond.fieldLink RX3 31 "HoldBench$Tally" "most" "I", Cond.methodLink RX3 51 Lib.Math.max.name, Cond.static Lib.Math.max.name, Cond.code Lib.Math.max.name Lib.Math.max.code 2 (some .int), Cond.methodLink RX3 47 yX3_enter, Cond.instanceMethod yX3_enter, Cond.selects RX3 yX3_enter yX3_enter, Cond.code yX3_enter cX3_enter 2 none, Cond.fieldLink RX3 18 "HoldBench$Tally" "entered" "I", Cond.fieldLink RX3 9 "HoldBench$Tally" "entries" "[I", Cond.static yX4_isThrown, Cond.code yX4_isThrown cX4_isThrown 1 (some .boolean), Cond.methodLink RX1 114 yX1_leaveHold, Cond.instanceMethod yX1_leaveHold, Cond.selects RX1 yX1_leaveHold yX1_leaveHold, Cond.code yX1_leaveHold cX1_leaveHold 3 none, Cond.instanceMethod yX3_enterLeft, Cond.selects RX3 yX3_enterLeft yX3_enterLeft, Cond.code yX3_enterLeft cX3_enterLeft 3 none, Cond.fieldLink RX3 34 "HoldBench$Tally" "cutShort" "I", Cond.code yX1_doLoop cX1_doLoop 7 (some .int), Cond.code yX1_doStep cX1_doStep 7 (some .int)]
def wsX1_doCall_r4 : List Cond := [Cond.instanceMethod yX3_enterMark, Cond.selects RX3 yX3_enterMark yX3_enterMark, Cond.code yX3_enterMark cX3_enterMark 2 none, Cond.methodLink RX1 68 yX1_doHold, Cond.instanceMethod yX1_doHold, Cond.selects RX1 yX1_doHold yX1_doHold, Cond.methodLink RX1 72 yX1_doLoop, Cond.instanceMethod yX1_doLoop, Cond.selects RX1 yX1_doLoop yX1_doLoop, Cond.methodLink RX1 76 yX1_doTry, Cond.instanceMethod yX1_doTry, Cond.selects RX1 yX1_doTry yX1_doTry, Cond.methodLink RX1 80 yX1_doBoth, Cond.instanceMethod yX1_doBoth, Cond.selects RX1 yX1_doBoth yX1_doBoth, Cond.methodLink RX1 83 yX1_doCall, Cond.instanceMethod yX1_doCall, Cond.selects RX1 yX1_doCall yX1_doCall, Cond.methodLink RX1 86 yX1_doAdd, Cond.instanceMethod yX1_doAdd, Cond.selects RX1 yX1_doAdd yX1_doAdd, Cond.code yX1_doAdd cX1_doAdd 4 (some .int), Cond.instanceMethod yX2_isHeld, Cond.selects RX2 yX2_isHeld yX2_isHeld]
def wsX1_doCall_r5 : List Cond := [Cond.code yX2_isHeld cX2_isHeld 2 (some .boolean), Cond.instanceMethod yX2_raiseNumber, Cond.selects RX2 yX2_raiseNumber yX2_raiseNumber, Cond.code yX2_raiseNumber cX2_raiseNumber 3 none, Cond.fieldLink RX2 21 "HoldBench$Shelf" "numbers" "[I", Cond.instanceMethod yX2_put, Cond.selects RX2 yX2_put yX2_put, Cond.code yX2_put cX2_put 3 none, Cond.methodLink RX1 99 yX1_doNew, Cond.instanceMethod yX1_doNew, Cond.selects RX1 yX1_doNew yX1_doNew, Cond.code yX1_doNew cX1_doNew 2 (some .int), Cond.instanceMethod yX2_makeThing, Cond.selects RX2 yX2_makeThing yX2_makeThing, Cond.code yX2_makeThing cX2_makeThing 3 (some .int), Cond.methodLink RX2 31 yX2_put, Cond.methodLink RX1 102 yX1_doSweep, Cond.instanceMethod yX1_doSweep, Cond.selects RX1 yX1_doSweep yX1_doSweep, Cond.code yX1_doSweep cX1_doSweep 7 none, Cond.instanceMethod yX2_numberOf, Cond.selects RX2 yX2_numberOf yX2_numberOf, Cond.code yX2_numberOf cX2_numberOf 2 (some .int), Cond.code yX1_doTry cX1_doTry 8 (some .int)]
def wsX1_doCall : List Cond := .code yX1_doCall cX1_doCall 4 (some .int) :: ((wsX1_doCall_r1 ++ (wsX1_doCall_r2 ++ (wsX1_doCall_r3 ++ (wsX1_doCall_r4 ++ wsX1_doCall_r5)))) ++ wsX10 ++ wsX00 ++ wsX20 ++ wsX30)
def wsX1_doHold_r1 : List Cond := [Cond.fieldLink RX1 9 "HoldBench$Runner" "shelf" "LHoldBench$Shelf;", Cond.fieldLink RX1 23 "HoldBench$Runner" "refused" "I", Cond.instanceMethod yX2_thingIn, Cond.initialized RX2, Cond.selects RX2 yX2_thingIn yX2_thingIn, Cond.code yX2_thingIn cX2_thingIn 2 (some .int), Cond.fieldLink RX2 9 "HoldBench$Shelf" "places" "[I", Cond.static yX4_isPlace, Cond.initialized RX4, Cond.code yX4_isPlace cX4_isPlace 1 (some .boolean), Cond.methodLink RX4 109 yX4_isWithin, Cond.static yX4_isWithin, Cond.code yX4_isWithin cX4_isWithin 3 (some .boolean), Cond.methodLink RX1 105 yX1_beginHold, Cond.instanceMethod yX1_beginHold, Cond.selects RX1 yX1_beginHold yX1_beginHold, Cond.initialized RX1, Cond.code yX1_beginHold cX1_beginHold 2 none, Cond.fieldLink RX1 19 "HoldBench$Runner" "tally" "LHoldBench$Tally;", Cond.instanceMethod yX2_deepen, Cond.selects RX2 yX2_deepen yX2_deepen, Cond.code yX2_deepen cX2_deepen 3 none, Cond.fieldLink RX2 24 "HoldBench$Shelf" "depths" "[I", Cond.methodLink RX2 39 yX2_isThing]
def wsX1_doHold_r2 : List Cond := [Cond.instanceMethod yX2_isThing, Cond.selects RX2 yX2_isThing yX2_isThing, Cond.code yX2_isThing cX2_isThing 2 (some .boolean), Cond.fieldLink RX2 27 "HoldBench$Shelf" "made" "I", Cond.instanceMethod yX3_enterBegun, Cond.initialized RX3, Cond.selects RX3 yX3_enterBegun yX3_enterBegun, Cond.code yX3_enterBegun cX3_enterBegun 2 none, Cond.fieldLink RX3 25 "HoldBench$Tally" "holds" "I", Cond.fieldLink RX3 28 "HoldBench$Tally" "underWay" "I", Cond.fieldLink RX3 31 "HoldBench$Tally" "most" "I", Cond.methodLink RX3 51 Lib.Math.max.name, Cond.static Lib.Math.max.name, Cond.initialized "java/lang/Math", Cond.code Lib.Math.max.name Lib.Math.max.code 2 (some .int), Cond.methodLink RX3 47 yX3_enter, Cond.instanceMethod yX3_enter, Cond.selects RX3 yX3_enter yX3_enter, Cond.code yX3_enter cX3_enter 2 none, Cond.fieldLink RX3 18 "HoldBench$Tally" "entered" "I", Cond.fieldLink RX3 9 "HoldBench$Tally" "entries" "[I", Cond.methodLink RX1 108 yX1_doBlock, Cond.instanceMethod yX1_doBlock, Cond.selects RX1 yX1_doBlock yX1_doBlock]
def wsX1_doHold_r3 : List Cond := [Cond.static yX4_isThrown, Cond.code yX4_isThrown cX4_isThrown 1 (some .boolean), Cond.methodLink RX1 114 yX1_leaveHold, Cond.instanceMethod yX1_leaveHold, Cond.selects RX1 yX1_leaveHold yX1_leaveHold, Cond.code yX1_leaveHold cX1_leaveHold 3 none, Cond.instanceMethod yX3_enterLeft, Cond.selects RX3 yX3_enterLeft yX3_enterLeft, Cond.code yX3_enterLeft cX3_enterLeft 3 none, Cond.fieldLink RX3 34 "HoldBench$Tally" "cutShort" "I", Cond.code yX1_doBlock cX1_doBlock 7 (some .int), Cond.fieldLink RX1 15 "HoldBench$Runner" "program" "LHoldBench$Program;", Cond.methodLink RX1 37 Lib.Math.min.name, Cond.static Lib.Math.min.name, Cond.code Lib.Math.min.name Lib.Math.min.code 2 (some .int), Cond.static yX4_isBlock, Cond.code yX4_isBlock cX4_isBlock 1 (some .boolean), Cond.methodLink RX1 43 yX1_doStep, Cond.instanceMethod yX1_doStep, Cond.selects RX1 yX1_doStep yX1_doStep, Cond.code yX1_doBoth cX1_doBoth 7 (some .int), Cond.code yX1_doCall cX1_doCall 4 (some .int), Cond.code yX1_doLoop cX1_doLoop 7 (some .int), Cond.code yX1_doStep cX1_doStep 7 (some .int)]
def wsX1_doHold_r4 : List Cond := [Cond.instanceMethod yX3_enterMark, Cond.selects RX3 yX3_enterMark yX3_enterMark, Cond.code yX3_enterMark cX3_enterMark 2 none, Cond.methodLink RX1 68 yX1_doHold, Cond.instanceMethod yX1_doHold, Cond.selects RX1 yX1_doHold yX1_doHold, Cond.methodLink RX1 72 yX1_doLoop, Cond.instanceMethod yX1_doLoop, Cond.selects RX1 yX1_doLoop yX1_doLoop, Cond.methodLink RX1 76 yX1_doTry, Cond.instanceMethod yX1_doTry, Cond.selects RX1 yX1_doTry yX1_doTry, Cond.methodLink RX1 80 yX1_doBoth, Cond.instanceMethod yX1_doBoth, Cond.selects RX1 yX1_doBoth yX1_doBoth, Cond.methodLink RX1 83 yX1_doCall, Cond.instanceMethod yX1_doCall, Cond.selects RX1 yX1_doCall yX1_doCall, Cond.methodLink RX1 86 yX1_doAdd, Cond.instanceMethod yX1_doAdd, Cond.selects RX1 yX1_doAdd yX1_doAdd, Cond.code yX1_doAdd cX1_doAdd 4 (some .int), Cond.instanceMethod yX2_isHeld, Cond.selects RX2 yX2_isHeld yX2_isHeld]
def wsX1_doHold_r5 : List Cond := [Cond.code yX2_isHeld cX2_isHeld 2 (some .boolean), Cond.instanceMethod yX2_raiseNumber, Cond.selects RX2 yX2_raiseNumber yX2_raiseNumber, Cond.code yX2_raiseNumber cX2_raiseNumber 3 none, Cond.fieldLink RX2 21 "HoldBench$Shelf" "numbers" "[I", Cond.instanceMethod yX2_put, Cond.selects RX2 yX2_put yX2_put, Cond.code yX2_put cX2_put 3 none, Cond.methodLink RX1 99 yX1_doNew, Cond.instanceMethod yX1_doNew, Cond.selects RX1 yX1_doNew yX1_doNew, Cond.code yX1_doNew cX1_doNew 2 (some .int), Cond.instanceMethod yX2_makeThing, Cond.selects RX2 yX2_makeThing yX2_makeThing, Cond.code yX2_makeThing cX2_makeThing 3 (some .int), Cond.methodLink RX2 31 yX2_put, Cond.methodLink RX1 102 yX1_doSweep, Cond.instanceMethod yX1_doSweep, Cond.selects RX1 yX1_doSweep yX1_doSweep, Cond.code yX1_doSweep cX1_doSweep 7 none, Cond.instanceMethod yX2_numberOf, Cond.selects RX2 yX2_numberOf yX2_numberOf, Cond.code yX2_numberOf cX2_numberOf 2 (some .int), Cond.code yX1_doTry cX1_doTry 8 (some .int)]
def wsX1_doHold : List Cond := .code yX1_doHold cX1_doHold 7 (some .int) :: ((wsX1_doHold_r1 ++ (wsX1_doHold_r2 ++ (wsX1_doHold_r3 ++ (wsX1_doHold_r4 ++ wsX1_doHold_r5)))) ++ wsX10 ++ wsX00 ++ wsX20 ++ wsX30)
def wsX1_doLoop_r1 : List Cond := [Cond.methodLink RX1 37 Lib.Math.min.name, Cond.static Lib.Math.min.name, Cond.initialized "java/lang/Math", Cond.code Lib.Math.min.name Lib.Math.min.code 2 (some .int), Cond.methodLink RX1 108 yX1_doBlock, Cond.instanceMethod yX1_doBlock, Cond.selects RX1 yX1_doBlock yX1_doBlock, Cond.initialized RX1, Cond.code yX1_doBlock cX1_doBlock 7 (some .int), Cond.fieldLink RX1 15 "HoldBench$Runner" "program" "LHoldBench$Program;", Cond.static yX4_isBlock, Cond.initialized RX4, Cond.code yX4_isBlock cX4_isBlock 1 (some .boolean), Cond.methodLink RX4 109 yX4_isWithin, Cond.static yX4_isWithin, Cond.code yX4_isWithin cX4_isWithin 3 (some .boolean), Cond.methodLink RX1 43 yX1_doStep, Cond.instanceMethod yX1_doStep, Cond.selects RX1 yX1_doStep yX1_doStep, Cond.code yX1_doBoth cX1_doBoth 7 (some .int), Cond.code yX1_doCall cX1_doCall 4 (some .int), Cond.code yX1_doHold cX1_doHold 7 (some .int), Cond.fieldLink RX1 9 "HoldBench$Runner" "shelf" "LHoldBench$Shelf;", Cond.fieldLink RX1 23 "HoldBench$Runner" "refused" "I"]
def wsX1_doLoop_r2 : List Cond := [Cond.instanceMethod yX2_thingIn, Cond.initialized RX2, Cond.selects RX2 yX2_thingIn yX2_thingIn, Cond.code yX2_thingIn cX2_thingIn 2 (some .int), Cond.fieldLink RX2 9 "HoldBench$Shelf" "places" "[I", Cond.static yX4_isPlace, Cond.code yX4_isPlace cX4_isPlace 1 (some .boolean), Cond.methodLink RX1 105 yX1_beginHold, Cond.instanceMethod yX1_beginHold, Cond.selects RX1 yX1_beginHold yX1_beginHold, Cond.code yX1_beginHold cX1_beginHold 2 none, Cond.fieldLink RX1 19 "HoldBench$Runner" "tally" "LHoldBench$Tally;", Cond.instanceMethod yX2_deepen, Cond.selects RX2 yX2_deepen yX2_deepen, Cond.code yX2_deepen cX2_deepen 3 none, Cond.fieldLink RX2 24 "HoldBench$Shelf" "depths" "[I", Cond.methodLink RX2 39 yX2_isThing, Cond.instanceMethod yX2_isThing, Cond.selects RX2 yX2_isThing yX2_isThing, Cond.code yX2_isThing cX2_isThing 2 (some .boolean), Cond.fieldLink RX2 27 "HoldBench$Shelf" "made" "I", Cond.instanceMethod yX3_enterBegun, Cond.initialized RX3, Cond.selects RX3 yX3_enterBegun yX3_enterBegun]
def wsX1_doLoop_r3 : List Cond := [Cond.code yX3_enterBegun cX3_enterBegun 2 none, Cond.fieldLink RX3 25 "HoldBench$Tally" "holds" "I", Cond.fieldLink RX3 28 "HoldBench$Tally" "underWay" "I", Cond.fieldLink RX3 31 "HoldBench$Tally" "most" "I", Cond.methodLink RX3 51 Lib.Math.max.name, Cond.static Lib.Math.max.name, Cond.code Lib.Math.max.name Lib.Math.max.code 2 (some .int), Cond.methodLink RX3 47 yX3_enter, Cond.instanceMethod yX3_enter, Cond.selects RX3 yX3_enter yX3_enter, Cond.code yX3_enter cX3_enter 2 none, Cond.fieldLink RX3 18 "HoldBench$Tally" "entered" "I", Cond.fieldLink RX3 9 "HoldBench$Tally" "entries" "[I", Cond.static yX4_isThrown, Cond.code yX4_isThrown cX4_isThrown 1 (some .boolean), Cond.methodLink RX1 114 yX1_leaveHold, Cond.instanceMethod yX1_leaveHold, Cond.selects RX1 yX1_leaveHold yX1_leaveHold, Cond.code yX1_leaveHold cX1_leaveHold 3 none, Cond.instanceMethod yX3_enterLeft, Cond.selects RX3 yX3_enterLeft yX3_enterLeft, Cond.code yX3_enterLeft cX3_enterLeft 3 none, Cond.fieldLink RX3 34 "HoldBench$Tally" "cutShort" "I", Cond.code yX1_doStep cX1_doStep 7 (some .int)]
def wsX1_doLoop_r4 : List Cond := [Cond.instanceMethod yX3_enterMark, Cond.selects RX3 yX3_enterMark yX3_enterMark, Cond.code yX3_enterMark cX3_enterMark 2 none, Cond.methodLink RX1 68 yX1_doHold, Cond.instanceMethod yX1_doHold, Cond.selects RX1 yX1_doHold yX1_doHold, Cond.methodLink RX1 72 yX1_doLoop, Cond.instanceMethod yX1_doLoop, Cond.selects RX1 yX1_doLoop yX1_doLoop, Cond.methodLink RX1 76 yX1_doTry, Cond.instanceMethod yX1_doTry, Cond.selects RX1 yX1_doTry yX1_doTry, Cond.methodLink RX1 80 yX1_doBoth, Cond.instanceMethod yX1_doBoth, Cond.selects RX1 yX1_doBoth yX1_doBoth, Cond.methodLink RX1 83 yX1_doCall, Cond.instanceMethod yX1_doCall, Cond.selects RX1 yX1_doCall yX1_doCall, Cond.methodLink RX1 86 yX1_doAdd, Cond.instanceMethod yX1_doAdd, Cond.selects RX1 yX1_doAdd yX1_doAdd, Cond.code yX1_doAdd cX1_doAdd 4 (some .int), Cond.instanceMethod yX2_isHeld, Cond.selects RX2 yX2_isHeld yX2_isHeld]
def wsX1_doLoop_r5 : List Cond := [Cond.code yX2_isHeld cX2_isHeld 2 (some .boolean), Cond.instanceMethod yX2_raiseNumber, Cond.selects RX2 yX2_raiseNumber yX2_raiseNumber, Cond.code yX2_raiseNumber cX2_raiseNumber 3 none, Cond.fieldLink RX2 21 "HoldBench$Shelf" "numbers" "[I", Cond.instanceMethod yX2_put, Cond.selects RX2 yX2_put yX2_put, Cond.code yX2_put cX2_put 3 none, Cond.methodLink RX1 99 yX1_doNew, Cond.instanceMethod yX1_doNew, Cond.selects RX1 yX1_doNew yX1_doNew, Cond.code yX1_doNew cX1_doNew 2 (some .int), Cond.instanceMethod yX2_makeThing, Cond.selects RX2 yX2_makeThing yX2_makeThing, Cond.code yX2_makeThing cX2_makeThing 3 (some .int), Cond.methodLink RX2 31 yX2_put, Cond.methodLink RX1 102 yX1_doSweep, Cond.instanceMethod yX1_doSweep, Cond.selects RX1 yX1_doSweep yX1_doSweep, Cond.code yX1_doSweep cX1_doSweep 7 none, Cond.instanceMethod yX2_numberOf, Cond.selects RX2 yX2_numberOf yX2_numberOf, Cond.code yX2_numberOf cX2_numberOf 2 (some .int), Cond.code yX1_doTry cX1_doTry 8 (some .int)]
def wsX1_doLoop : List Cond := .code yX1_doLoop cX1_doLoop 7 (some .int) :: ((wsX1_doLoop_r1 ++ (wsX1_doLoop_r2 ++ (wsX1_doLoop_r3 ++ (wsX1_doLoop_r4 ++ wsX1_doLoop_r5)))) ++ wsX10 ++ wsX00 ++ wsX20 ++ wsX30)
def wsX1_doStep_r1 : List Cond := [Cond.fieldLink RX1 19 "HoldBench$Runner" "tally" "LHoldBench$Tally;", Cond.fieldLink RX1 15 "HoldBench$Runner" "program" "LHoldBench$Program;", Cond.fieldLink RX1 9 "HoldBench$Runner" "shelf" "LHoldBench$Shelf;", Cond.instanceMethod yX3_enterMark, Cond.initialized RX3, Cond.selects RX3 yX3_enterMark yX3_enterMark, Cond.code yX3_enterMark cX3_enterMark 2 none, Cond.methodLink RX3 47 yX3_enter, Cond.instanceMethod yX3_enter, Cond.selects RX3 yX3_enter yX3_enter, Cond.code yX3_enter cX3_enter 2 none, Cond.fieldLink RX3 18 "HoldBench$Tally" "entered" "I", Cond.fieldLink RX3 9 "HoldBench$Tally" "entries" "[I", Cond.methodLink RX1 68 yX1_doHold, Cond.instanceMethod yX1_doHold, Cond.selects RX1 yX1_doHold yX1_doHold, Cond.initialized RX1, Cond.methodLink RX1 72 yX1_doLoop, Cond.instanceMethod yX1_doLoop, Cond.selects RX1 yX1_doLoop yX1_doLoop, Cond.methodLink RX1 76 yX1_doTry, Cond.instanceMethod yX1_doTry, Cond.selects RX1 yX1_doTry yX1_doTry, Cond.methodLink RX1 80 yX1_doBoth]
def wsX1_doStep_r2 : List Cond := [Cond.instanceMethod yX1_doBoth, Cond.selects RX1 yX1_doBoth yX1_doBoth, Cond.methodLink RX1 83 yX1_doCall, Cond.instanceMethod yX1_doCall, Cond.selects RX1 yX1_doCall yX1_doCall, Cond.methodLink RX1 86 yX1_doAdd, Cond.instanceMethod yX1_doAdd, Cond.selects RX1 yX1_doAdd yX1_doAdd, Cond.code yX1_doAdd cX1_doAdd 4 (some .int), Cond.instanceMethod yX2_thingIn, Cond.initialized RX2, Cond.selects RX2 yX2_thingIn yX2_thingIn, Cond.code yX2_thingIn cX2_thingIn 2 (some .int), Cond.fieldLink RX2 9 "HoldBench$Shelf" "places" "[I", Cond.static yX4_isPlace, Cond.initialized RX4, Cond.code yX4_isPlace cX4_isPlace 1 (some .boolean), Cond.methodLink RX4 109 yX4_isWithin, Cond.static yX4_isWithin, Cond.code yX4_isWithin cX4_isWithin 3 (some .boolean), Cond.instanceMethod yX2_isHeld, Cond.selects RX2 yX2_isHeld yX2_isHeld, Cond.code yX2_isHeld cX2_isHeld 2 (some .boolean), Cond.fieldLink RX2 24 "HoldBench$Shelf" "depths" "[I"]
def wsX1_doStep_r3 : List Cond := [Cond.methodLink RX2 39 yX2_isThing, Cond.instanceMethod yX2_isThing, Cond.selects RX2 yX2_isThing yX2_isThing, Cond.code yX2_isThing cX2_isThing 2 (some .boolean), Cond.fieldLink RX2 27 "HoldBench$Shelf" "made" "I", Cond.instanceMethod yX2_raiseNumber, Cond.selects RX2 yX2_raiseNumber yX2_raiseNumber, Cond.code yX2_raiseNumber cX2_raiseNumber 3 none, Cond.fieldLink RX2 21 "HoldBench$Shelf" "numbers" "[I", Cond.instanceMethod yX2_put, Cond.selects RX2 yX2_put yX2_put, Cond.code yX2_put cX2_put 3 none, Cond.methodLink RX1 99 yX1_doNew, Cond.instanceMethod yX1_doNew, Cond.selects RX1 yX1_doNew yX1_doNew, Cond.code yX1_doNew cX1_doNew 2 (some .int), Cond.instanceMethod yX2_makeThing, Cond.selects RX2 yX2_makeThing yX2_makeThing, Cond.code yX2_makeThing cX2_makeThing 3 (some .int), Cond.methodLink RX2 31 yX2_put, Cond.methodLink RX1 102 yX1_doSweep, Cond.instanceMethod yX1_doSweep, Cond.selects RX1 yX1_doSweep yX1_doSweep, Cond.code yX1_doSweep cX1_doSweep 7 none]
def wsX1_doStep_r4 : List Cond := [Cond.methodLink RX1 105 yX1_beginHold, Cond.instanceMethod yX1_beginHold, Cond.selects RX1 yX1_beginHold yX1_beginHold, Cond.code yX1_beginHold cX1_beginHold 2 none, Cond.instanceMethod yX2_deepen, Cond.selects RX2 yX2_deepen yX2_deepen, Cond.code yX2_deepen cX2_deepen 3 none, Cond.instanceMethod yX3_enterBegun, Cond.selects RX3 yX3_enterBegun yX3_enterBegun, Cond.code yX3_enterBegun cX3_enterBegun 2 none, Cond.fieldLink RX3 25 "HoldBench$Tally" "holds" "I", Cond.fieldLink RX3 28 "HoldBench$Tally" "underWay" "I", Cond.fieldLink RX3 31 "HoldBench$Tally" "most" "I", Cond.methodLink RX3 51 Lib.Math.max.name, Cond.static Lib.Math.max.name, Cond.initialized "java/lang/Math", Cond.code Lib.Math.max.name Lib.Math.max.code 2 (some .int), Cond.instanceMethod yX2_numberOf, Cond.selects RX2 yX2_numberOf yX2_numberOf, Cond.code yX2_numberOf cX2_numberOf 2 (some .int), Cond.methodLink RX1 114 yX1_leaveHold, Cond.instanceMethod yX1_leaveHold, Cond.selects RX1 yX1_leaveHold yX1_leaveHold, Cond.code yX1_leaveHold cX1_leaveHold 3 none]
def wsX1_doStep_r5 : List Cond := [Cond.instanceMethod yX3_enterLeft, Cond.selects RX3 yX3_enterLeft yX3_enterLeft, Cond.code yX3_enterLeft cX3_enterLeft 3 none, Cond.fieldLink RX3 34 "HoldBench$Tally" "cutShort" "I", Cond.code yX1_doBlock cX1_doBlock 7 (some .int), Cond.methodLink RX1 37 Lib.Math.min.name, Cond.static Lib.Math.min.name, Cond.code Lib.Math.min.name Lib.Math.min.code 2 (some .int), Cond.static yX4_isBlock, Cond.code yX4_isBlock cX4_isBlock 1 (some .boolean), Cond.methodLink RX1 43 yX1_doStep, Cond.instanceMethod yX1_doStep, Cond.selects RX1 yX1_doStep yX1_doStep, Cond.code yX1_doBoth cX1_doBoth 7 (some .int), Cond.methodLink RX1 108 yX1_doBlock, Cond.instanceMethod yX1_doBlock, Cond.selects RX1 yX1_doBlock yX1_doBlock, Cond.code yX1_doCall cX1_doCall 4 (some .int), Cond.code yX1_doHold cX1_doHold 7 (some .int), Cond.fieldLink RX1 23 "HoldBench$Runner" "refused" "I", Cond.static yX4_isThrown, Cond.code yX4_isThrown cX4_isThrown 1 (some .boolean), Cond.code yX1_doLoop cX1_doLoop 7 (some .int), Cond.code yX1_doTry cX1_doTry 8 (some .int)]
def wsX1_doStep : List Cond := .code yX1_doStep cX1_doStep 7 (some .int) :: ((wsX1_doStep_r1 ++ (wsX1_doStep_r2 ++ (wsX1_doStep_r3 ++ (wsX1_doStep_r4 ++ wsX1_doStep_r5)))) ++ wsX10 ++ wsX00 ++ wsX20 ++ wsX30)
def wsX1_doTry_r1 : List Cond := [Cond.methodLink RX1 108 yX1_doBlock, Cond.instanceMethod yX1_doBlock, Cond.selects RX1 yX1_doBlock yX1_doBlock, Cond.initialized RX1, Cond.static yX4_isThrown, Cond.initialized RX4, Cond.code yX4_isThrown cX4_isThrown 1 (some .boolean), Cond.code yX1_doBlock cX1_doBlock 7 (some .int), Cond.fieldLink RX1 15 "HoldBench$Runner" "program" "LHoldBench$Program;", Cond.methodLink RX1 37 Lib.Math.min.name, Cond.static Lib.Math.min.name, Cond.initialized "java/lang/Math", Cond.code Lib.Math.min.name Lib.Math.min.code 2 (some .int), Cond.static yX4_isBlock, Cond.code yX4_isBlock cX4_isBlock 1 (some .boolean), Cond.methodLink RX4 109 yX4_isWithin, Cond.static yX4_isWithin, Cond.code yX4_isWithin cX4_isWithin 3 (some .boolean), Cond.methodLink RX1 43 yX1_doStep, Cond.instanceMethod yX1_doStep, Cond.selects RX1 yX1_doStep yX1_doStep, Cond.code yX1_doBoth cX1_doBoth 7 (some .int), Cond.code yX1_doCall cX1_doCall 4 (some .int), Cond.code yX1_doHold cX1_doHold 7 (some .int)]
def wsX1_doTry_r2 : List Cond := [Cond.fieldLink RX1 9 "HoldBench$Runner" "shelf" "LHoldBench$Shelf;", Cond.fieldLink RX1 23 "HoldBench$Runner" "refused" "I", Cond.instanceMethod yX2_thingIn, Cond.initialized RX2, Cond.selects RX2 yX2_thingIn yX2_thingIn, Cond.code yX2_thingIn cX2_thingIn 2 (some .int), Cond.fieldLink RX2 9 "HoldBench$Shelf" "places" "[I", Cond.static yX4_isPlace, Cond.code yX4_isPlace cX4_isPlace 1 (some .boolean), Cond.methodLink RX1 105 yX1_beginHold, Cond.instanceMethod yX1_beginHold, Cond.selects RX1 yX1_beginHold yX1_beginHold, Cond.code yX1_beginHold cX1_beginHold 2 none, Cond.fieldLink RX1 19 "HoldBench$Runner" "tally" "LHoldBench$Tally;", Cond.instanceMethod yX2_deepen, Cond.selects RX2 yX2_deepen yX2_deepen, Cond.code yX2_deepen cX2_deepen 3 none, Cond.fieldLink RX2 24 "HoldBench$Shelf" "depths" "[I", Cond.methodLink RX2 39 yX2_isThing, Cond.instanceMethod yX2_isThing, Cond.selects RX2 yX2_isThing yX2_isThing, Cond.code yX2_isThing cX2_isThing 2 (some .boolean), Cond.fieldLink RX2 27 "HoldBench$Shelf" "made" "I", Cond.instanceMethod yX3_enterBegun]
def wsX1_doTry_r3 : List Cond := [Cond.initialized RX3, Cond.selects RX3 yX3_enterBegun yX3_enterBegun, Cond.code yX3_enterBegun cX3_enterBegun 2 none, Cond.fieldLink RX3 25 "HoldBench$Tally" "holds" "I", Cond.fieldLink RX3 28 "HoldBench$Tally" "underWay" "I", Cond.fieldLink RX3 31 "HoldBench$Tally" "most" "I", Cond.methodLink RX3 51 Lib.Math.max.name, Cond.static Lib.Math.max.name, Cond.code Lib.Math.max.name Lib.Math.max.code 2 (some .int), Cond.methodLink RX3 47 yX3_enter, Cond.instanceMethod yX3_enter, Cond.selects RX3 yX3_enter yX3_enter, Cond.code yX3_enter cX3_enter 2 none, Cond.fieldLink RX3 18 "HoldBench$Tally" "entered" "I", Cond.fieldLink RX3 9 "HoldBench$Tally" "entries" "[I", Cond.methodLink RX1 114 yX1_leaveHold, Cond.instanceMethod yX1_leaveHold, Cond.selects RX1 yX1_leaveHold yX1_leaveHold, Cond.code yX1_leaveHold cX1_leaveHold 3 none, Cond.instanceMethod yX3_enterLeft, Cond.selects RX3 yX3_enterLeft yX3_enterLeft, Cond.code yX3_enterLeft cX3_enterLeft 3 none, Cond.fieldLink RX3 34 "HoldBench$Tally" "cutShort" "I", Cond.code yX1_doLoop cX1_doLoop 7 (some .int)]
def wsX1_doTry_r4 : List Cond := [Cond.code yX1_doStep cX1_doStep 7 (some .int), Cond.instanceMethod yX3_enterMark, Cond.selects RX3 yX3_enterMark yX3_enterMark, Cond.code yX3_enterMark cX3_enterMark 2 none, Cond.methodLink RX1 68 yX1_doHold, Cond.instanceMethod yX1_doHold, Cond.selects RX1 yX1_doHold yX1_doHold, Cond.methodLink RX1 72 yX1_doLoop, Cond.instanceMethod yX1_doLoop, Cond.selects RX1 yX1_doLoop yX1_doLoop, Cond.methodLink RX1 76 yX1_doTry, Cond.instanceMethod yX1_doTry, Cond.selects RX1 yX1_doTry yX1_doTry, Cond.methodLink RX1 80 yX1_doBoth, Cond.instanceMethod yX1_doBoth, Cond.selects RX1 yX1_doBoth yX1_doBoth, Cond.methodLink RX1 83 yX1_doCall, Cond.instanceMethod yX1_doCall, Cond.selects RX1 yX1_doCall yX1_doCall, Cond.methodLink RX1 86 yX1_doAdd, Cond.instanceMethod yX1_doAdd, Cond.selects RX1 yX1_doAdd yX1_doAdd, Cond.code yX1_doAdd cX1_doAdd 4 (some .int), Cond.instanceMethod yX2_isHeld]
def wsX1_doTry_r5 : List Cond := [Cond.selects RX2 yX2_isHeld yX2_isHeld, Cond.code yX2_isHeld cX2_isHeld 2 (some .boolean), Cond.instanceMethod yX2_raiseNumber, Cond.selects RX2 yX2_raiseNumber yX2_raiseNumber, Cond.code yX2_raiseNumber cX2_raiseNumber 3 none, Cond.fieldLink RX2 21 "HoldBench$Shelf" "numbers" "[I", Cond.instanceMethod yX2_put, Cond.selects RX2 yX2_put yX2_put, Cond.code yX2_put cX2_put 3 none, Cond.methodLink RX1 99 yX1_doNew, Cond.instanceMethod yX1_doNew, Cond.selects RX1 yX1_doNew yX1_doNew, Cond.code yX1_doNew cX1_doNew 2 (some .int), Cond.instanceMethod yX2_makeThing, Cond.selects RX2 yX2_makeThing yX2_makeThing, Cond.code yX2_makeThing cX2_makeThing 3 (some .int), Cond.methodLink RX2 31 yX2_put, Cond.methodLink RX1 102 yX1_doSweep, Cond.instanceMethod yX1_doSweep, Cond.selects RX1 yX1_doSweep yX1_doSweep, Cond.code yX1_doSweep cX1_doSweep 7 none, Cond.instanceMethod yX2_numberOf, Cond.selects RX2 yX2_numberOf yX2_numberOf, Cond.code yX2_numberOf cX2_numberOf 2 (some .int)]
def wsX1_doTry : List Cond := .code yX1_doTry cX1_doTry 8 (some .int) :: ((wsX1_doTry_r1 ++ (wsX1_doTry_r2 ++ (wsX1_doTry_r3 ++ (wsX1_doTry_r4 ++ wsX1_doTry_r5)))) ++ wsX10 ++ wsX00 ++ wsX20 ++ wsX30)
def wsJ7_fill_53178 : List Cond := .code yJ7_fill_53178 cJ7_fill_53178 4 none :: ([])
def wsX2_init : List Cond := .code yX2_init cX2_init 1 none :: ([.methodLink RX2 3 objectInit, .instanceMethod objectInit, .code objectInit ⟨#[0xb1]⟩ 1 none, .arrayClass .int, .fieldLink RX2 9 "HoldBench$Shelf" "places" "[I", .fieldLink RX2 21 "HoldBench$Shelf" "numbers" "[I", .fieldLink RX2 24 "HoldBench$Shelf" "depths" "[I", .fieldLink RX2 27 "HoldBench$Shelf" "made" "I", .methodLink RX2 15 yJ7_fill_53178, .static yJ7_fill_53178, .initialized RJ7, .code yJ7_fill_53178 cJ7_fill_53178 4 none] ++ wsX20)
def wsX3_restart : List Cond := .code yX3_restart cX3_restart 1 none :: ([.fieldLink RX3 18 "HoldBench$Tally" "entered" "I", .fieldLink RX3 22 "HoldBench$Tally" "steps" "I", .fieldLink RX3 25 "HoldBench$Tally" "holds" "I", .fieldLink RX3 28 "HoldBench$Tally" "underWay" "I", .fieldLink RX3 31 "HoldBench$Tally" "most" "I", .fieldLink RX3 34 "HoldBench$Tally" "cutShort" "I"] ++ wsX30)
def wsX3_init : List Cond := .code yX3_init cX3_init 1 none :: ([.methodLink RX3 3 objectInit, .instanceMethod objectInit, .code objectInit ⟨#[0xb1]⟩ 1 none, .arrayClass .int, .fieldLink RX3 9 "HoldBench$Tally" "entries" "[I", .methodLink RX3 15 yX3_restart, .instanceMethod yX3_restart, .selects RX3 yX3_restart yX3_restart, .initialized RX3, .code yX3_restart cX3_restart 1 none, .fieldLink RX3 18 "HoldBench$Tally" "entered" "I", .fieldLink RX3 22 "HoldBench$Tally" "steps" "I", .fieldLink RX3 25 "HoldBench$Tally" "holds" "I", .fieldLink RX3 28 "HoldBench$Tally" "underWay" "I", .fieldLink RX3 31 "HoldBench$Tally" "most" "I", .fieldLink RX3 34 "HoldBench$Tally" "cutShort" "I"] ++ wsX30)
def wsX3_entry : List Cond := .code yX3_entry cX3_entry 2 (some .int) :: ([.fieldLink RX3 18 "HoldBench$Tally" "entered" "I", .methodLink RX3 37 Lib.Math.min.name, .static Lib.Math.min.name, .initialized "java/lang/Math", .code Lib.Math.min.name Lib.Math.min.code 2 (some .int), .fieldLink RX3 9 "HoldBench$Tally" "entries" "[I", .static yX4_isWithin, .initialized RX4, .code yX4_isWithin cX4_isWithin 3 (some .boolean)] ++ wsX30)
def wsX4_init_r1 : List Cond := [Cond.methodLink RX4 1 objectInit, Cond.instanceMethod objectInit, Cond.code objectInit ⟨#[0xb1]⟩ 1 none, Cond.classLink RX4 7 RX2, Cond.instantiable RX2 4, Cond.initialized RX2, Cond.fieldLink RX4 10 "HoldBench" "shelf" "LHoldBench$Shelf;", Cond.classLink RX4 16 RX0, Cond.instantiable RX0 6, Cond.initialized RX0, Cond.fieldLink RX4 19 "HoldBench" "program" "LHoldBench$Program;", Cond.classLink RX4 23 RX3, Cond.instantiable RX3 7, Cond.initialized RX3, Cond.fieldLink RX4 26 "HoldBench" "tally" "LHoldBench$Tally;", Cond.classLink RX4 30 RX1, Cond.instantiable RX1 4, Cond.initialized RX1, Cond.fieldLink RX4 35 "HoldBench" "runner" "LHoldBench$Runner;", Cond.fieldLink RX4 39 "HoldBench" "runs" "I", Cond.instanceMethod yX2_init, Cond.code yX2_init cX2_init 1 none, Cond.methodLink RX2 3 objectInit, Cond.arrayClass .int]
def wsX4_init_r2 : List Cond := [Cond.fieldLink RX2 9 "HoldBench$Shelf" "places" "[I", Cond.fieldLink RX2 21 "HoldBench$Shelf" "numbers" "[I", Cond.fieldLink RX2 24 "HoldBench$Shelf" "depths" "[I", Cond.fieldLink RX2 27 "HoldBench$Shelf" "made" "I", Cond.methodLink RX2 15 yJ7_fill_53178, Cond.static yJ7_fill_53178, Cond.initialized RJ7, Cond.code yJ7_fill_53178 cJ7_fill_53178 4 none, Cond.instanceMethod yX0_init, Cond.code yX0_init cX0_init 2 none, Cond.methodLink RX0 3 objectInit, Cond.fieldLink RX0 9 "HoldBench$Program" "sizes" "[I", Cond.fieldLink RX0 15 "HoldBench$Program" "kinds" "[I", Cond.fieldLink RX0 18 "HoldBench$Program" "as" "[I", Cond.fieldLink RX0 21 "HoldBench$Program" "xs" "[I", Cond.fieldLink RX0 24 "HoldBench$Program" "ys" "[I", Cond.fieldLink RX0 27 "HoldBench$Program" "total" "I", Cond.instanceMethod yX3_init, Cond.code yX3_init cX3_init 1 none, Cond.methodLink RX3 3 objectInit, Cond.fieldLink RX3 9 "HoldBench$Tally" "entries" "[I", Cond.methodLink RX3 15 yX3_restart, Cond.instanceMethod yX3_restart, Cond.selects RX3 yX3_restart yX3_restart]
def wsX4_init_r3 : List Cond := [Cond.code yX3_restart cX3_restart 1 none, Cond.fieldLink RX3 18 "HoldBench$Tally" "entered" "I", Cond.fieldLink RX3 22 "HoldBench$Tally" "steps" "I", Cond.fieldLink RX3 25 "HoldBench$Tally" "holds" "I", Cond.fieldLink RX3 28 "HoldBench$Tally" "underWay" "I", Cond.fieldLink RX3 31 "HoldBench$Tally" "most" "I", Cond.fieldLink RX3 34 "HoldBench$Tally" "cutShort" "I", Cond.instanceMethod yX1_init, Cond.code yX1_init cX1_init 4 none, Cond.methodLink RX1 3 objectInit, Cond.fieldLink RX1 9 "HoldBench$Runner" "shelf" "LHoldBench$Shelf;", Cond.fieldLink RX1 15 "HoldBench$Runner" "program" "LHoldBench$Program;", Cond.fieldLink RX1 19 "HoldBench$Runner" "tally" "LHoldBench$Tally;", Cond.fieldLink RX1 23 "HoldBench$Runner" "refused" "I"]
def wsX4_init : List Cond := .code yX4_init cX4_init 1 none :: ((wsX4_init_r1 ++ (wsX4_init_r2 ++ wsX4_init_r3)) ++ wsX20 ++ wsX40 ++ wsX00 ++ wsX30 ++ wsX10)
def wsX4_thing : List Cond := .code yX4_thing cX4_thing 2 (some .int) :: ([.fieldLink RX4 10 "HoldBench" "shelf" "LHoldBench$Shelf;", .methodLink RX4 43 yX4_isPlace, .static yX4_isPlace, .initialized RX4, .code yX4_isPlace cX4_isPlace 1 (some .boolean), .methodLink RX4 109 yX4_isWithin, .static yX4_isWithin, .code yX4_isWithin cX4_isWithin 3 (some .boolean), .instanceMethod yX2_makeThing, .initialized RX2, .selects RX2 yX2_makeThing yX2_makeThing, .code yX2_makeThing cX2_makeThing 3 (some .int), .fieldLink RX2 27 "HoldBench$Shelf" "made" "I", .methodLink RX2 31 yX2_put, .instanceMethod yX2_put, .selects RX2 yX2_put yX2_put, .code yX2_put cX2_put 3 none, .fieldLink RX2 9 "HoldBench$Shelf" "places" "[I"] ++ wsX40 ++ wsX20)
def wsX4_set : List Cond := .code yX4_set cX4_set 4 (some .int) :: ([.fieldLink RX4 10 "HoldBench" "shelf" "LHoldBench$Shelf;", .methodLink RX4 43 yX4_isPlace, .static yX4_isPlace, .initialized RX4, .code yX4_isPlace cX4_isPlace 1 (some .boolean), .methodLink RX4 109 yX4_isWithin, .static yX4_isWithin, .code yX4_isWithin cX4_isWithin 3 (some .boolean), .instanceMethod yX2_thingIn, .initialized RX2, .selects RX2 yX2_thingIn yX2_thingIn, .code yX2_thingIn cX2_thingIn 2 (some .int), .fieldLink RX2 9 "HoldBench$Shelf" "places" "[I", .instanceMethod yX2_put, .selects RX2 yX2_put yX2_put, .code yX2_put cX2_put 3 none] ++ wsX40 ++ wsX20)
def wsX4_isLater : List Cond := .code yX4_isLater cX4_isLater 2 (some .boolean) :: ([.methodLink RX4 109 yX4_isWithin, .static yX4_isWithin, .initialized RX4, .code yX4_isWithin cX4_isWithin 3 (some .boolean)])
def wsX4_isStep : List Cond := .code yX4_isStep cX4_isStep 5 (some .boolean) :: ([.methodLink RX4 113 yX4_isBlock, .static yX4_isBlock, .initialized RX4, .code yX4_isBlock cX4_isBlock 1 (some .boolean), .methodLink RX4 109 yX4_isWithin, .static yX4_isWithin, .code yX4_isWithin cX4_isWithin 3 (some .boolean), .methodLink RX4 43 yX4_isPlace, .static yX4_isPlace, .code yX4_isPlace cX4_isPlace 1 (some .boolean), .methodLink RX4 116 yX4_isLater, .static yX4_isLater, .code yX4_isLater cX4_isLater 2 (some .boolean)])
def wsX4_step_r1 : List Cond := [Cond.fieldLink RX4 19 "HoldBench" "program" "LHoldBench$Program;", Cond.methodLink RX4 58 yX4_isStep, Cond.static yX4_isStep, Cond.initialized RX4, Cond.code yX4_isStep cX4_isStep 5 (some .boolean), Cond.methodLink RX4 113 yX4_isBlock, Cond.static yX4_isBlock, Cond.code yX4_isBlock cX4_isBlock 1 (some .boolean), Cond.methodLink RX4 109 yX4_isWithin, Cond.static yX4_isWithin, Cond.code yX4_isWithin cX4_isWithin 3 (some .boolean), Cond.methodLink RX4 43 yX4_isPlace, Cond.static yX4_isPlace, Cond.code yX4_isPlace cX4_isPlace 1 (some .boolean), Cond.methodLink RX4 116 yX4_isLater, Cond.static yX4_isLater, Cond.code yX4_isLater cX4_isLater 2 (some .boolean), Cond.instanceMethod yX0_append, Cond.initialized RX0, Cond.selects RX0 yX0_append yX0_append, Cond.code yX0_append cX0_append 7 (some .int), Cond.fieldLink RX0 27 "HoldBench$Program" "total" "I", Cond.fieldLink RX0 9 "HoldBench$Program" "sizes" "[I", Cond.fieldLink RX0 15 "HoldBench$Program" "kinds" "[I"]
def wsX4_step_r2 : List Cond := [Cond.fieldLink RX0 18 "HoldBench$Program" "as" "[I", Cond.fieldLink RX0 21 "HoldBench$Program" "xs" "[I", Cond.fieldLink RX0 24 "HoldBench$Program" "ys" "[I"]
def wsX4_step : List Cond := .code yX4_step cX4_step 6 (some .int) :: ((wsX4_step_r1 ++ wsX4_step_r2) ++ wsX40 ++ wsX00)
def wsX4_clear : List Cond := .code yX4_clear cX4_clear 2 (some .int) :: ([.fieldLink RX4 19 "HoldBench" "program" "LHoldBench$Program;", .instanceMethod yX0_empty, .initialized RX0, .selects RX0 yX0_empty yX0_empty, .code yX0_empty cX0_empty 3 (some .int), .fieldLink RX0 9 "HoldBench$Program" "sizes" "[I", .fieldLink RX0 27 "HoldBench$Program" "total" "I", .static yX4_isBlock, .initialized RX4, .code yX4_isBlock cX4_isBlock 1 (some .boolean), .methodLink RX4 109 yX4_isWithin, .static yX4_isWithin, .code yX4_isWithin cX4_isWithin 3 (some .boolean)] ++ wsX40 ++ wsX00)
def wsX4_run_r1 : List Cond := [Cond.fieldLink RX4 35 "HoldBench" "runner" "LHoldBench$Runner;", Cond.fieldLink RX4 39 "HoldBench" "runs" "I", Cond.fieldLink RX4 26 "HoldBench" "tally" "LHoldBench$Tally;", Cond.instanceMethod yX3_restart, Cond.initialized RX3, Cond.selects RX3 yX3_restart yX3_restart, Cond.code yX3_restart cX3_restart 1 none, Cond.fieldLink RX3 18 "HoldBench$Tally" "entered" "I", Cond.fieldLink RX3 22 "HoldBench$Tally" "steps" "I", Cond.fieldLink RX3 25 "HoldBench$Tally" "holds" "I", Cond.fieldLink RX3 28 "HoldBench$Tally" "underWay" "I", Cond.fieldLink RX3 31 "HoldBench$Tally" "most" "I", Cond.fieldLink RX3 34 "HoldBench$Tally" "cutShort" "I", Cond.instanceMethod yX1_doBlock, Cond.initialized RX1, Cond.selects RX1 yX1_doBlock yX1_doBlock, Cond.code yX1_doBlock cX1_doBlock 7 (some .int), Cond.fieldLink RX1 15 "HoldBench$Runner" "program" "LHoldBench$Program;", Cond.methodLink RX1 37 Lib.Math.min.name, Cond.static Lib.Math.min.name, Cond.initialized "java/lang/Math", Cond.code Lib.Math.min.name Lib.Math.min.code 2 (some .int), Cond.static yX4_isBlock, Cond.initialized RX4]
def wsX4_run_r2 : List Cond := [Cond.code yX4_isBlock cX4_isBlock 1 (some .boolean), Cond.methodLink RX4 109 yX4_isWithin, Cond.static yX4_isWithin, Cond.code yX4_isWithin cX4_isWithin 3 (some .boolean), Cond.methodLink RX1 43 yX1_doStep, Cond.instanceMethod yX1_doStep, Cond.selects RX1 yX1_doStep yX1_doStep, Cond.code yX1_doBoth cX1_doBoth 7 (some .int), Cond.methodLink RX1 108 yX1_doBlock, Cond.code yX1_doCall cX1_doCall 4 (some .int), Cond.code yX1_doHold cX1_doHold 7 (some .int), Cond.fieldLink RX1 9 "HoldBench$Runner" "shelf" "LHoldBench$Shelf;", Cond.fieldLink RX1 23 "HoldBench$Runner" "refused" "I", Cond.instanceMethod yX2_thingIn, Cond.initialized RX2, Cond.selects RX2 yX2_thingIn yX2_thingIn, Cond.code yX2_thingIn cX2_thingIn 2 (some .int), Cond.fieldLink RX2 9 "HoldBench$Shelf" "places" "[I", Cond.static yX4_isPlace, Cond.code yX4_isPlace cX4_isPlace 1 (some .boolean), Cond.methodLink RX1 105 yX1_beginHold, Cond.instanceMethod yX1_beginHold, Cond.selects RX1 yX1_beginHold yX1_beginHold, Cond.code yX1_beginHold cX1_beginHold 2 none]
def wsX4_run_r3 : List Cond := [Cond.fieldLink RX1 19 "HoldBench$Runner" "tally" "LHoldBench$Tally;", Cond.instanceMethod yX2_deepen, Cond.selects RX2 yX2_deepen yX2_deepen, Cond.code yX2_deepen cX2_deepen 3 none, Cond.fieldLink RX2 24 "HoldBench$Shelf" "depths" "[I", Cond.methodLink RX2 39 yX2_isThing, Cond.instanceMethod yX2_isThing, Cond.selects RX2 yX2_isThing yX2_isThing, Cond.code yX2_isThing cX2_isThing 2 (some .boolean), Cond.fieldLink RX2 27 "HoldBench$Shelf" "made" "I", Cond.instanceMethod yX3_enterBegun, Cond.selects RX3 yX3_enterBegun yX3_enterBegun, Cond.code yX3_enterBegun cX3_enterBegun 2 none, Cond.methodLink RX3 51 Lib.Math.max.name, Cond.static Lib.Math.max.name, Cond.code Lib.Math.max.name Lib.Math.max.code 2 (some .int), Cond.methodLink RX3 47 yX3_enter, Cond.instanceMethod yX3_enter, Cond.selects RX3 yX3_enter yX3_enter, Cond.code yX3_enter cX3_enter 2 none, Cond.fieldLink RX3 9 "HoldBench$Tally" "entries" "[I", Cond.static yX4_isThrown, Cond.code yX4_isThrown cX4_isThrown 1 (some .boolean), Cond.methodLink RX1 114 yX1_leaveHold]
def wsX4_run_r4 : List Cond := [Cond.instanceMethod yX1_leaveHold, Cond.selects RX1 yX1_leaveHold yX1_leaveHold, Cond.code yX1_leaveHold cX1_leaveHold 3 none, Cond.instanceMethod yX3_enterLeft, Cond.selects RX3 yX3_enterLeft yX3_enterLeft, Cond.code yX3_enterLeft cX3_enterLeft 3 none, Cond.code yX1_doLoop cX1_doLoop 7 (some .int), Cond.code yX1_doStep cX1_doStep 7 (some .int), Cond.instanceMethod yX3_enterMark, Cond.selects RX3 yX3_enterMark yX3_enterMark, Cond.code yX3_enterMark cX3_enterMark 2 none, Cond.methodLink RX1 68 yX1_doHold, Cond.instanceMethod yX1_doHold, Cond.selects RX1 yX1_doHold yX1_doHold, Cond.methodLink RX1 72 yX1_doLoop, Cond.instanceMethod yX1_doLoop, Cond.selects RX1 yX1_doLoop yX1_doLoop, Cond.methodLink RX1 76 yX1_doTry, Cond.instanceMethod yX1_doTry, Cond.selects RX1 yX1_doTry yX1_doTry, Cond.methodLink RX1 80 yX1_doBoth, Cond.instanceMethod yX1_doBoth, Cond.selects RX1 yX1_doBoth yX1_doBoth, Cond.methodLink RX1 83 yX1_doCall]
def wsX4_run_r5 : List Cond := [Cond.instanceMethod yX1_doCall, Cond.selects RX1 yX1_doCall yX1_doCall, Cond.methodLink RX1 86 yX1_doAdd, Cond.instanceMethod yX1_doAdd, Cond.selects RX1 yX1_doAdd yX1_doAdd, Cond.code yX1_doAdd cX1_doAdd 4 (some .int), Cond.instanceMethod yX2_isHeld, Cond.selects RX2 yX2_isHeld yX2_isHeld, Cond.code yX2_isHeld cX2_isHeld 2 (some .boolean), Cond.instanceMethod yX2_raiseNumber, Cond.selects RX2 yX2_raiseNumber yX2_raiseNumber, Cond.code yX2_raiseNumber cX2_raiseNumber 3 none, Cond.fieldLink RX2 21 "HoldBench$Shelf" "numbers" "[I", Cond.instanceMethod yX2_put, Cond.selects RX2 yX2_put yX2_put, Cond.code yX2_put cX2_put 3 none, Cond.methodLink RX1 99 yX1_doNew, Cond.instanceMethod yX1_doNew, Cond.selects RX1 yX1_doNew yX1_doNew, Cond.code yX1_doNew cX1_doNew 2 (some .int), Cond.instanceMethod yX2_makeThing, Cond.selects RX2 yX2_makeThing yX2_makeThing, Cond.code yX2_makeThing cX2_makeThing 3 (some .int), Cond.methodLink RX2 31 yX2_put]
def wsX4_run_r6 : List Cond := [Cond.methodLink RX1 102 yX1_doSweep, Cond.instanceMethod yX1_doSweep, Cond.selects RX1 yX1_doSweep yX1_doSweep, Cond.code yX1_doSweep cX1_doSweep 7 none, Cond.instanceMethod yX2_numberOf, Cond.selects RX2 yX2_numberOf yX2_numberOf, Cond.code yX2_numberOf cX2_numberOf 2 (some .int), Cond.code yX1_doTry cX1_doTry 8 (some .int), Cond.methodLink RX4 79 yX4_isThrown]
def wsX4_run : List Cond := .code yX4_run cX4_run 2 (some .int) :: ((wsX4_run_r1 ++ (wsX4_run_r2 ++ (wsX4_run_r3 ++ (wsX4_run_r4 ++ (wsX4_run_r5 ++ wsX4_run_r6))))) ++ wsX40 ++ wsX10 ++ wsX30 ++ wsX00 ++ wsX20)
def wsX4_trace : List Cond := .code yX4_trace cX4_trace 2 (some .int) :: ([.fieldLink RX4 26 "HoldBench" "tally" "LHoldBench$Tally;", .instanceMethod yX3_entry, .initialized RX3, .selects RX3 yX3_entry yX3_entry, .code yX3_entry cX3_entry 2 (some .int), .fieldLink RX3 18 "HoldBench$Tally" "entered" "I", .methodLink RX3 37 Lib.Math.min.name, .static Lib.Math.min.name, .initialized "java/lang/Math", .code Lib.Math.min.name Lib.Math.min.code 2 (some .int), .fieldLink RX3 9 "HoldBench$Tally" "entries" "[I", .static yX4_isWithin, .initialized RX4, .code yX4_isWithin cX4_isWithin 3 (some .boolean)] ++ wsX40 ++ wsX30)
def wsX4_told : List Cond := .code yX4_told cX4_told 2 (some .int) :: ([.fieldLink RX4 26 "HoldBench" "tally" "LHoldBench$Tally;"] ++ wsX40 ++ wsX30)
def wsX4_at : List Cond := .code yX4_at cX4_at 2 (some .int) :: ([.fieldLink RX4 10 "HoldBench" "shelf" "LHoldBench$Shelf;", .methodLink RX4 43 yX4_isPlace, .static yX4_isPlace, .initialized RX4, .code yX4_isPlace cX4_isPlace 1 (some .boolean), .methodLink RX4 109 yX4_isWithin, .static yX4_isWithin, .code yX4_isWithin cX4_isWithin 3 (some .boolean), .instanceMethod yX2_thingIn, .initialized RX2, .selects RX2 yX2_thingIn yX2_thingIn, .code yX2_thingIn cX2_thingIn 2 (some .int), .fieldLink RX2 9 "HoldBench$Shelf" "places" "[I"] ++ wsX40 ++ wsX20)
def wsX4_number : List Cond := .code yX4_number cX4_number 2 (some .int) :: ([.fieldLink RX4 10 "HoldBench" "shelf" "LHoldBench$Shelf;", .instanceMethod yX2_numberOf, .initialized RX2, .selects RX2 yX2_numberOf yX2_numberOf, .code yX2_numberOf cX2_numberOf 2 (some .int), .fieldLink RX2 21 "HoldBench$Shelf" "numbers" "[I", .methodLink RX2 39 yX2_isThing, .instanceMethod yX2_isThing, .selects RX2 yX2_isThing yX2_isThing, .code yX2_isThing cX2_isThing 2 (some .boolean), .fieldLink RX2 27 "HoldBench$Shelf" "made" "I"] ++ wsX40 ++ wsX20)
def wsX4_count : List Cond := .code yX4_count cX4_count 2 (some .int) :: ([.fieldLink RX4 10 "HoldBench" "shelf" "LHoldBench$Shelf;", .fieldLink RX4 19 "HoldBench" "program" "LHoldBench$Program;", .fieldLink RX4 39 "HoldBench" "runs" "I", .fieldLink RX4 35 "HoldBench" "runner" "LHoldBench$Runner;"] ++ wsX40 ++ wsX20 ++ wsX00 ++ wsX10)
def wsX5_init : List Cond := .code yX5_init cX5_init 2 none :: ([.methodLink RX5 1 objectInit, .instanceMethod objectInit, .code objectInit ⟨#[0xb1]⟩ 1 none, .arrayClass .int, .fieldLink RX5 7 "HoldBenchModel" "placed" "[I", .fieldLink RX5 13 "HoldBenchModel" "number" "[I", .fieldLink RX5 16 "HoldBenchModel" "depth" "[I", .fieldLink RX5 19 "HoldBenchModel" "many" "[I", .fieldLink RX5 22 "HoldBenchModel" "kinds" "[I", .fieldLink RX5 25 "HoldBenchModel" "as" "[I", .fieldLink RX5 28 "HoldBenchModel" "xs" "[I", .fieldLink RX5 31 "HoldBenchModel" "ys" "[I", .fieldLink RX5 34 "HoldBenchModel" "trace" "[I"] ++ wsX50)
def wsX5_in : List Cond := .code yX5_in cX5_in 3 (some .boolean) :: ([])
def wsX5_isPlace : List Cond := .code yX5_isPlace cX5_isPlace 1 (some .boolean) :: ([.methodLink RX5 41 yX5_in, .static yX5_in, .initialized RX5, .code yX5_in cX5_in 3 (some .boolean)])
def wsX5_made : List Cond := .code yX5_made cX5_made 2 (some .int) :: ([.fieldLink RX5 13 "HoldBenchModel" "number" "[I", .fieldLink RX5 45 "HoldBenchModel" "things" "I", .fieldLink RX5 16 "HoldBenchModel" "depth" "[I", .fieldLink RX5 7 "HoldBenchModel" "placed" "[I"] ++ wsX50)
def wsX5_thing : List Cond := .code yX5_thing cX5_thing 2 (some .int) :: ([.fieldLink RX5 37 "HoldBenchModel" "thrown" "I", .fieldLink RX5 45 "HoldBenchModel" "things" "I", .methodLink RX5 48 yX5_isPlace, .static yX5_isPlace, .initialized RX5, .code yX5_isPlace cX5_isPlace 1 (some .boolean), .methodLink RX5 41 yX5_in, .static yX5_in, .code yX5_in cX5_in 3 (some .boolean), .methodLink RX5 52 yX5_made, .instanceMethod yX5_made, .selects RX5 yX5_made yX5_made, .code yX5_made cX5_made 2 (some .int), .fieldLink RX5 13 "HoldBenchModel" "number" "[I", .fieldLink RX5 16 "HoldBenchModel" "depth" "[I", .fieldLink RX5 7 "HoldBenchModel" "placed" "[I"] ++ wsX50)
def wsX5_set : List Cond := .code yX5_set cX5_set 3 (some .int) :: ([.fieldLink RX5 37 "HoldBenchModel" "thrown" "I", .fieldLink RX5 7 "HoldBenchModel" "placed" "[I", .methodLink RX5 48 yX5_isPlace, .static yX5_isPlace, .initialized RX5, .code yX5_isPlace cX5_isPlace 1 (some .boolean), .methodLink RX5 41 yX5_in, .static yX5_in, .code yX5_in cX5_in 3 (some .boolean)] ++ wsX50)
def wsX5_isBelow : List Cond := .code yX5_isBelow cX5_isBelow 2 (some .boolean) :: ([])
def wsX5_isRight : List Cond := .code yX5_isRight cX5_isRight 5 (some .boolean) :: ([.methodLink RX5 48 yX5_isPlace, .static yX5_isPlace, .initialized RX5, .code yX5_isPlace cX5_isPlace 1 (some .boolean), .methodLink RX5 41 yX5_in, .static yX5_in, .code yX5_in cX5_in 3 (some .boolean), .methodLink RX5 56 yX5_isBelow, .static yX5_isBelow, .code yX5_isBelow cX5_isBelow 2 (some .boolean)])
def wsX5_step : List Cond := .code yX5_step cX5_step 7 (some .int) :: ([.fieldLink RX5 37 "HoldBenchModel" "thrown" "I", .fieldLink RX5 19 "HoldBenchModel" "many" "[I", .fieldLink RX5 64 "HoldBenchModel" "steps" "I", .fieldLink RX5 22 "HoldBenchModel" "kinds" "[I", .fieldLink RX5 25 "HoldBenchModel" "as" "[I", .fieldLink RX5 28 "HoldBenchModel" "xs" "[I", .fieldLink RX5 31 "HoldBenchModel" "ys" "[I", .methodLink RX5 41 yX5_in, .static yX5_in, .initialized RX5, .code yX5_in cX5_in 3 (some .boolean), .methodLink RX5 60 yX5_isRight, .static yX5_isRight, .code yX5_isRight cX5_isRight 5 (some .boolean), .methodLink RX5 48 yX5_isPlace, .static yX5_isPlace, .code yX5_isPlace cX5_isPlace 1 (some .boolean), .methodLink RX5 56 yX5_isBelow, .static yX5_isBelow, .code yX5_isBelow cX5_isBelow 2 (some .boolean)] ++ wsX50)
def wsX5_clear : List Cond := .code yX5_clear cX5_clear 3 (some .int) :: ([.fieldLink RX5 37 "HoldBenchModel" "thrown" "I", .fieldLink RX5 19 "HoldBenchModel" "many" "[I", .fieldLink RX5 64 "HoldBenchModel" "steps" "I", .methodLink RX5 41 yX5_in, .static yX5_in, .initialized RX5, .code yX5_in cX5_in 3 (some .boolean)] ++ wsX50)
def wsX5_comes : List Cond := .code yX5_comes cX5_comes 2 none :: ([.fieldLink RX5 67 "HoldBenchModel" "traced" "I", .fieldLink RX5 34 "HoldBenchModel" "trace" "[I"] ++ wsX50)
def wsX5_begin : List Cond := .code yX5_begin cX5_begin 2 none :: ([.fieldLink RX5 70 "HoldBenchModel" "holds" "I", .fieldLink RX5 73 "HoldBenchModel" "underWay" "I", .fieldLink RX5 76 "HoldBenchModel" "most" "I", .fieldLink RX5 16 "HoldBenchModel" "depth" "[I", .methodLink RX5 79 yX5_comes, .instanceMethod yX5_comes, .selects RX5 yX5_comes yX5_comes, .initialized RX5, .code yX5_comes cX5_comes 2 none, .fieldLink RX5 67 "HoldBenchModel" "traced" "I", .fieldLink RX5 34 "HoldBenchModel" "trace" "[I"] ++ wsX50)
def wsX5_leave : List Cond := .code yX5_leave cX5_leave 3 none :: ([.fieldLink RX5 73 "HoldBenchModel" "underWay" "I", .fieldLink RX5 16 "HoldBenchModel" "depth" "[I", .fieldLink RX5 83 "HoldBenchModel" "leftBadly" "I", .methodLink RX5 79 yX5_comes, .instanceMethod yX5_comes, .selects RX5 yX5_comes yX5_comes, .initialized RX5, .code yX5_comes cX5_comes 2 none, .fieldLink RX5 67 "HoldBenchModel" "traced" "I", .fieldLink RX5 34 "HoldBenchModel" "trace" "[I"] ++ wsX50)
def wsX5_throwing : List Cond := .code yX5_throwing cX5_throwing 2 (some .int) :: ([.fieldLink RX5 86 "HoldBenchModel" "what" "I"] ++ wsX50)
def wsX5_add : List Cond := .code yX5_add cX5_add 3 (some .int) :: ([.fieldLink RX5 16 "HoldBenchModel" "depth" "[I", .fieldLink RX5 13 "HoldBenchModel" "number" "[I", .methodLink RX5 108 yX5_throwing, .instanceMethod yX5_throwing, .selects RX5 yX5_throwing yX5_throwing, .initialized RX5, .code yX5_throwing cX5_throwing 2 (some .int), .fieldLink RX5 86 "HoldBenchModel" "what" "I"] ++ wsX50)
def wsX5_sweep : List Cond := .code yX5_sweep cX5_sweep 6 (some .int) :: ([.fieldLink RX5 7 "HoldBenchModel" "placed" "[I", .fieldLink RX5 13 "HoldBenchModel" "number" "[I", .methodLink RX5 95 yX5_begin, .instanceMethod yX5_begin, .selects RX5 yX5_begin yX5_begin, .initialized RX5, .code yX5_begin cX5_begin 2 none, .fieldLink RX5 70 "HoldBenchModel" "holds" "I", .fieldLink RX5 73 "HoldBenchModel" "underWay" "I", .fieldLink RX5 76 "HoldBenchModel" "most" "I", .fieldLink RX5 16 "HoldBenchModel" "depth" "[I", .methodLink RX5 79 yX5_comes, .instanceMethod yX5_comes, .selects RX5 yX5_comes yX5_comes, .code yX5_comes cX5_comes 2 none, .fieldLink RX5 67 "HoldBenchModel" "traced" "I", .fieldLink RX5 34 "HoldBenchModel" "trace" "[I", .methodLink RX5 101 yX5_leave, .instanceMethod yX5_leave, .selects RX5 yX5_leave yX5_leave, .code yX5_leave cX5_leave 3 none, .fieldLink RX5 83 "HoldBenchModel" "leftBadly" "I"] ++ wsX50)
def wsX5_block_r1 : List Cond := [Cond.fieldLink RX5 19 "HoldBenchModel" "many" "[I", Cond.fieldLink RX5 89 "HoldBenchModel" "done" "I", Cond.methodLink RX5 92 yX5_doStep, Cond.instanceMethod yX5_doStep, Cond.selects RX5 yX5_doStep yX5_doStep, Cond.initialized RX5, Cond.code yX5_both cX5_both 6 (some .int), Cond.fieldLink RX5 86 "HoldBenchModel" "what" "I", Cond.methodLink RX5 98 yX5_block, Cond.instanceMethod yX5_block, Cond.selects RX5 yX5_block yX5_block, Cond.code yX5_call cX5_call 4 (some .int), Cond.fieldLink RX5 105 "HoldBenchModel" "loops" "I", Cond.code yX5_doStep cX5_doStep 4 (some .int), Cond.fieldLink RX5 25 "HoldBenchModel" "as" "[I", Cond.fieldLink RX5 28 "HoldBenchModel" "xs" "[I", Cond.fieldLink RX5 22 "HoldBenchModel" "kinds" "[I", Cond.fieldLink RX5 7 "HoldBenchModel" "placed" "[I", Cond.fieldLink RX5 111 "HoldBenchModel" "refused" "I", Cond.fieldLink RX5 31 "HoldBenchModel" "ys" "[I", Cond.fieldLink RX5 45 "HoldBenchModel" "things" "I", Cond.methodLink RX5 79 yX5_comes, Cond.instanceMethod yX5_comes, Cond.selects RX5 yX5_comes yX5_comes]
def wsX5_block_r2 : List Cond := [Cond.code yX5_comes cX5_comes 2 none, Cond.fieldLink RX5 67 "HoldBenchModel" "traced" "I", Cond.fieldLink RX5 34 "HoldBenchModel" "trace" "[I", Cond.methodLink RX5 108 yX5_throwing, Cond.instanceMethod yX5_throwing, Cond.selects RX5 yX5_throwing yX5_throwing, Cond.code yX5_throwing cX5_throwing 2 (some .int), Cond.methodLink RX5 114 yX5_hold, Cond.instanceMethod yX5_hold, Cond.selects RX5 yX5_hold yX5_hold, Cond.methodLink RX5 118 yX5_loop, Cond.instanceMethod yX5_loop, Cond.selects RX5 yX5_loop yX5_loop, Cond.methodLink RX5 121 yX5_tried, Cond.instanceMethod yX5_tried, Cond.selects RX5 yX5_tried yX5_tried, Cond.methodLink RX5 125 yX5_both, Cond.instanceMethod yX5_both, Cond.selects RX5 yX5_both yX5_both, Cond.methodLink RX5 128 yX5_call, Cond.instanceMethod yX5_call, Cond.selects RX5 yX5_call yX5_call, Cond.methodLink RX5 131 yX5_add, Cond.instanceMethod yX5_add]
def wsX5_block_r3 : List Cond := [Cond.selects RX5 yX5_add yX5_add, Cond.code yX5_add cX5_add 3 (some .int), Cond.fieldLink RX5 16 "HoldBenchModel" "depth" "[I", Cond.fieldLink RX5 13 "HoldBenchModel" "number" "[I", Cond.methodLink RX5 52 yX5_made, Cond.instanceMethod yX5_made, Cond.selects RX5 yX5_made yX5_made, Cond.code yX5_made cX5_made 2 (some .int), Cond.methodLink RX5 134 yX5_sweep, Cond.instanceMethod yX5_sweep, Cond.selects RX5 yX5_sweep yX5_sweep, Cond.code yX5_sweep cX5_sweep 6 (some .int), Cond.methodLink RX5 95 yX5_begin, Cond.instanceMethod yX5_begin, Cond.selects RX5 yX5_begin yX5_begin, Cond.code yX5_begin cX5_begin 2 none, Cond.fieldLink RX5 70 "HoldBenchModel" "holds" "I", Cond.fieldLink RX5 73 "HoldBenchModel" "underWay" "I", Cond.fieldLink RX5 76 "HoldBenchModel" "most" "I", Cond.methodLink RX5 101 yX5_leave, Cond.instanceMethod yX5_leave, Cond.selects RX5 yX5_leave yX5_leave, Cond.code yX5_leave cX5_leave 3 none, Cond.fieldLink RX5 83 "HoldBenchModel" "leftBadly" "I"]
def wsX5_block_r4 : List Cond := [Cond.code yX5_hold cX5_hold 4 (some .int), Cond.code yX5_loop cX5_loop 5 (some .int), Cond.code yX5_tried cX5_tried 6 (some .int)]
def wsX5_block : List Cond := .code yX5_block cX5_block 4 (some .int) :: ((wsX5_block_r1 ++ (wsX5_block_r2 ++ (wsX5_block_r3 ++ wsX5_block_r4))) ++ wsX50)
def wsX5_both_r1 : List Cond := [Cond.fieldLink RX5 86 "HoldBenchModel" "what" "I", Cond.methodLink RX5 98 yX5_block, Cond.instanceMethod yX5_block, Cond.selects RX5 yX5_block yX5_block, Cond.initialized RX5, Cond.code yX5_block cX5_block 4 (some .int), Cond.fieldLink RX5 19 "HoldBenchModel" "many" "[I", Cond.fieldLink RX5 89 "HoldBenchModel" "done" "I", Cond.methodLink RX5 92 yX5_doStep, Cond.instanceMethod yX5_doStep, Cond.selects RX5 yX5_doStep yX5_doStep, Cond.code yX5_call cX5_call 4 (some .int), Cond.fieldLink RX5 105 "HoldBenchModel" "loops" "I", Cond.code yX5_doStep cX5_doStep 4 (some .int), Cond.fieldLink RX5 25 "HoldBenchModel" "as" "[I", Cond.fieldLink RX5 28 "HoldBenchModel" "xs" "[I", Cond.fieldLink RX5 22 "HoldBenchModel" "kinds" "[I", Cond.fieldLink RX5 7 "HoldBenchModel" "placed" "[I", Cond.fieldLink RX5 111 "HoldBenchModel" "refused" "I", Cond.fieldLink RX5 31 "HoldBenchModel" "ys" "[I", Cond.fieldLink RX5 45 "HoldBenchModel" "things" "I", Cond.methodLink RX5 79 yX5_comes, Cond.instanceMethod yX5_comes, Cond.selects RX5 yX5_comes yX5_comes]
def wsX5_both_r2 : List Cond := [Cond.code yX5_comes cX5_comes 2 none, Cond.fieldLink RX5 67 "HoldBenchModel" "traced" "I", Cond.fieldLink RX5 34 "HoldBenchModel" "trace" "[I", Cond.methodLink RX5 108 yX5_throwing, Cond.instanceMethod yX5_throwing, Cond.selects RX5 yX5_throwing yX5_throwing, Cond.code yX5_throwing cX5_throwing 2 (some .int), Cond.methodLink RX5 114 yX5_hold, Cond.instanceMethod yX5_hold, Cond.selects RX5 yX5_hold yX5_hold, Cond.methodLink RX5 118 yX5_loop, Cond.instanceMethod yX5_loop, Cond.selects RX5 yX5_loop yX5_loop, Cond.methodLink RX5 121 yX5_tried, Cond.instanceMethod yX5_tried, Cond.selects RX5 yX5_tried yX5_tried, Cond.methodLink RX5 125 yX5_both, Cond.instanceMethod yX5_both, Cond.selects RX5 yX5_both yX5_both, Cond.methodLink RX5 128 yX5_call, Cond.instanceMethod yX5_call, Cond.selects RX5 yX5_call yX5_call, Cond.methodLink RX5 131 yX5_add, Cond.instanceMethod yX5_add]
def wsX5_both_r3 : List Cond := [Cond.selects RX5 yX5_add yX5_add, Cond.code yX5_add cX5_add 3 (some .int), Cond.fieldLink RX5 16 "HoldBenchModel" "depth" "[I", Cond.fieldLink RX5 13 "HoldBenchModel" "number" "[I", Cond.methodLink RX5 52 yX5_made, Cond.instanceMethod yX5_made, Cond.selects RX5 yX5_made yX5_made, Cond.code yX5_made cX5_made 2 (some .int), Cond.methodLink RX5 134 yX5_sweep, Cond.instanceMethod yX5_sweep, Cond.selects RX5 yX5_sweep yX5_sweep, Cond.code yX5_sweep cX5_sweep 6 (some .int), Cond.methodLink RX5 95 yX5_begin, Cond.instanceMethod yX5_begin, Cond.selects RX5 yX5_begin yX5_begin, Cond.code yX5_begin cX5_begin 2 none, Cond.fieldLink RX5 70 "HoldBenchModel" "holds" "I", Cond.fieldLink RX5 73 "HoldBenchModel" "underWay" "I", Cond.fieldLink RX5 76 "HoldBenchModel" "most" "I", Cond.methodLink RX5 101 yX5_leave, Cond.instanceMethod yX5_leave, Cond.selects RX5 yX5_leave yX5_leave, Cond.code yX5_leave cX5_leave 3 none, Cond.fieldLink RX5 83 "HoldBenchModel" "leftBadly" "I"]
def wsX5_both_r4 : List Cond := [Cond.code yX5_hold cX5_hold 4 (some .int), Cond.code yX5_loop cX5_loop 5 (some .int), Cond.code yX5_tried cX5_tried 6 (some .int)]
def wsX5_both : List Cond := .code yX5_both cX5_both 6 (some .int) :: ((wsX5_both_r1 ++ (wsX5_both_r2 ++ (wsX5_both_r3 ++ wsX5_both_r4))) ++ wsX50)
def wsX5_call_r1 : List Cond := [Cond.fieldLink RX5 105 "HoldBenchModel" "loops" "I", Cond.methodLink RX5 98 yX5_block, Cond.instanceMethod yX5_block, Cond.selects RX5 yX5_block yX5_block, Cond.initialized RX5, Cond.code yX5_block cX5_block 4 (some .int), Cond.fieldLink RX5 19 "HoldBenchModel" "many" "[I", Cond.fieldLink RX5 89 "HoldBenchModel" "done" "I", Cond.methodLink RX5 92 yX5_doStep, Cond.instanceMethod yX5_doStep, Cond.selects RX5 yX5_doStep yX5_doStep, Cond.code yX5_both cX5_both 6 (some .int), Cond.fieldLink RX5 86 "HoldBenchModel" "what" "I", Cond.code yX5_doStep cX5_doStep 4 (some .int), Cond.fieldLink RX5 25 "HoldBenchModel" "as" "[I", Cond.fieldLink RX5 28 "HoldBenchModel" "xs" "[I", Cond.fieldLink RX5 22 "HoldBenchModel" "kinds" "[I", Cond.fieldLink RX5 7 "HoldBenchModel" "placed" "[I", Cond.fieldLink RX5 111 "HoldBenchModel" "refused" "I", Cond.fieldLink RX5 31 "HoldBenchModel" "ys" "[I", Cond.fieldLink RX5 45 "HoldBenchModel" "things" "I", Cond.methodLink RX5 79 yX5_comes, Cond.instanceMethod yX5_comes, Cond.selects RX5 yX5_comes yX5_comes]
def wsX5_call_r2 : List Cond := [Cond.code yX5_comes cX5_comes 2 none, Cond.fieldLink RX5 67 "HoldBenchModel" "traced" "I", Cond.fieldLink RX5 34 "HoldBenchModel" "trace" "[I", Cond.methodLink RX5 108 yX5_throwing, Cond.instanceMethod yX5_throwing, Cond.selects RX5 yX5_throwing yX5_throwing, Cond.code yX5_throwing cX5_throwing 2 (some .int), Cond.methodLink RX5 114 yX5_hold, Cond.instanceMethod yX5_hold, Cond.selects RX5 yX5_hold yX5_hold, Cond.methodLink RX5 118 yX5_loop, Cond.instanceMethod yX5_loop, Cond.selects RX5 yX5_loop yX5_loop, Cond.methodLink RX5 121 yX5_tried, Cond.instanceMethod yX5_tried, Cond.selects RX5 yX5_tried yX5_tried, Cond.methodLink RX5 125 yX5_both, Cond.instanceMethod yX5_both, Cond.selects RX5 yX5_both yX5_both, Cond.methodLink RX5 128 yX5_call, Cond.instanceMethod yX5_call, Cond.selects RX5 yX5_call yX5_call, Cond.methodLink RX5 131 yX5_add, Cond.instanceMethod yX5_add]
def wsX5_call_r3 : List Cond := [Cond.selects RX5 yX5_add yX5_add, Cond.code yX5_add cX5_add 3 (some .int), Cond.fieldLink RX5 16 "HoldBenchModel" "depth" "[I", Cond.fieldLink RX5 13 "HoldBenchModel" "number" "[I", Cond.methodLink RX5 52 yX5_made, Cond.instanceMethod yX5_made, Cond.selects RX5 yX5_made yX5_made, Cond.code yX5_made cX5_made 2 (some .int), Cond.methodLink RX5 134 yX5_sweep, Cond.instanceMethod yX5_sweep, Cond.selects RX5 yX5_sweep yX5_sweep, Cond.code yX5_sweep cX5_sweep 6 (some .int), Cond.methodLink RX5 95 yX5_begin, Cond.instanceMethod yX5_begin, Cond.selects RX5 yX5_begin yX5_begin, Cond.code yX5_begin cX5_begin 2 none, Cond.fieldLink RX5 70 "HoldBenchModel" "holds" "I", Cond.fieldLink RX5 73 "HoldBenchModel" "underWay" "I", Cond.fieldLink RX5 76 "HoldBenchModel" "most" "I", Cond.methodLink RX5 101 yX5_leave, Cond.instanceMethod yX5_leave, Cond.selects RX5 yX5_leave yX5_leave, Cond.code yX5_leave cX5_leave 3 none, Cond.fieldLink RX5 83 "HoldBenchModel" "leftBadly" "I"]
def wsX5_call_r4 : List Cond := [Cond.code yX5_hold cX5_hold 4 (some .int), Cond.code yX5_loop cX5_loop 5 (some .int), Cond.code yX5_tried cX5_tried 6 (some .int)]
def wsX5_call : List Cond := .code yX5_call cX5_call 4 (some .int) :: ((wsX5_call_r1 ++ (wsX5_call_r2 ++ (wsX5_call_r3 ++ wsX5_call_r4))) ++ wsX50)
def wsX5_doStep_r1 : List Cond := [Cond.fieldLink RX5 25 "HoldBenchModel" "as" "[I", Cond.fieldLink RX5 28 "HoldBenchModel" "xs" "[I", Cond.fieldLink RX5 22 "HoldBenchModel" "kinds" "[I", Cond.fieldLink RX5 7 "HoldBenchModel" "placed" "[I", Cond.fieldLink RX5 111 "HoldBenchModel" "refused" "I", Cond.fieldLink RX5 105 "HoldBenchModel" "loops" "I", Cond.fieldLink RX5 31 "HoldBenchModel" "ys" "[I", Cond.fieldLink RX5 45 "HoldBenchModel" "things" "I", Cond.methodLink RX5 79 yX5_comes, Cond.instanceMethod yX5_comes, Cond.selects RX5 yX5_comes yX5_comes, Cond.initialized RX5, Cond.code yX5_comes cX5_comes 2 none, Cond.fieldLink RX5 67 "HoldBenchModel" "traced" "I", Cond.fieldLink RX5 34 "HoldBenchModel" "trace" "[I", Cond.methodLink RX5 108 yX5_throwing, Cond.instanceMethod yX5_throwing, Cond.selects RX5 yX5_throwing yX5_throwing, Cond.code yX5_throwing cX5_throwing 2 (some .int), Cond.fieldLink RX5 86 "HoldBenchModel" "what" "I", Cond.methodLink RX5 114 yX5_hold, Cond.instanceMethod yX5_hold, Cond.selects RX5 yX5_hold yX5_hold, Cond.methodLink RX5 118 yX5_loop]
def wsX5_doStep_r2 : List Cond := [Cond.instanceMethod yX5_loop, Cond.selects RX5 yX5_loop yX5_loop, Cond.methodLink RX5 121 yX5_tried, Cond.instanceMethod yX5_tried, Cond.selects RX5 yX5_tried yX5_tried, Cond.methodLink RX5 125 yX5_both, Cond.instanceMethod yX5_both, Cond.selects RX5 yX5_both yX5_both, Cond.methodLink RX5 128 yX5_call, Cond.instanceMethod yX5_call, Cond.selects RX5 yX5_call yX5_call, Cond.methodLink RX5 131 yX5_add, Cond.instanceMethod yX5_add, Cond.selects RX5 yX5_add yX5_add, Cond.code yX5_add cX5_add 3 (some .int), Cond.fieldLink RX5 16 "HoldBenchModel" "depth" "[I", Cond.fieldLink RX5 13 "HoldBenchModel" "number" "[I", Cond.methodLink RX5 52 yX5_made, Cond.instanceMethod yX5_made, Cond.selects RX5 yX5_made yX5_made, Cond.code yX5_made cX5_made 2 (some .int), Cond.methodLink RX5 134 yX5_sweep, Cond.instanceMethod yX5_sweep, Cond.selects RX5 yX5_sweep yX5_sweep]
def wsX5_doStep_r3 : List Cond := [Cond.code yX5_sweep cX5_sweep 6 (some .int), Cond.methodLink RX5 95 yX5_begin, Cond.instanceMethod yX5_begin, Cond.selects RX5 yX5_begin yX5_begin, Cond.code yX5_begin cX5_begin 2 none, Cond.fieldLink RX5 70 "HoldBenchModel" "holds" "I", Cond.fieldLink RX5 73 "HoldBenchModel" "underWay" "I", Cond.fieldLink RX5 76 "HoldBenchModel" "most" "I", Cond.methodLink RX5 101 yX5_leave, Cond.instanceMethod yX5_leave, Cond.selects RX5 yX5_leave yX5_leave, Cond.code yX5_leave cX5_leave 3 none, Cond.fieldLink RX5 83 "HoldBenchModel" "leftBadly" "I", Cond.code yX5_block cX5_block 4 (some .int), Cond.fieldLink RX5 19 "HoldBenchModel" "many" "[I", Cond.fieldLink RX5 89 "HoldBenchModel" "done" "I", Cond.methodLink RX5 92 yX5_doStep, Cond.instanceMethod yX5_doStep, Cond.selects RX5 yX5_doStep yX5_doStep, Cond.code yX5_both cX5_both 6 (some .int), Cond.methodLink RX5 98 yX5_block, Cond.instanceMethod yX5_block, Cond.selects RX5 yX5_block yX5_block, Cond.code yX5_call cX5_call 4 (some .int)]
def wsX5_doStep_r4 : List Cond := [Cond.code yX5_hold cX5_hold 4 (some .int), Cond.code yX5_loop cX5_loop 5 (some .int), Cond.code yX5_tried cX5_tried 6 (some .int)]
def wsX5_doStep : List Cond := .code yX5_doStep cX5_doStep 4 (some .int) :: ((wsX5_doStep_r1 ++ (wsX5_doStep_r2 ++ (wsX5_doStep_r3 ++ wsX5_doStep_r4))) ++ wsX50)
def wsX5_hold_r1 : List Cond := [Cond.methodLink RX5 95 yX5_begin, Cond.instanceMethod yX5_begin, Cond.selects RX5 yX5_begin yX5_begin, Cond.initialized RX5, Cond.code yX5_begin cX5_begin 2 none, Cond.fieldLink RX5 70 "HoldBenchModel" "holds" "I", Cond.fieldLink RX5 73 "HoldBenchModel" "underWay" "I", Cond.fieldLink RX5 76 "HoldBenchModel" "most" "I", Cond.fieldLink RX5 16 "HoldBenchModel" "depth" "[I", Cond.methodLink RX5 79 yX5_comes, Cond.instanceMethod yX5_comes, Cond.selects RX5 yX5_comes yX5_comes, Cond.code yX5_comes cX5_comes 2 none, Cond.fieldLink RX5 67 "HoldBenchModel" "traced" "I", Cond.fieldLink RX5 34 "HoldBenchModel" "trace" "[I", Cond.methodLink RX5 98 yX5_block, Cond.instanceMethod yX5_block, Cond.selects RX5 yX5_block yX5_block, Cond.methodLink RX5 101 yX5_leave, Cond.instanceMethod yX5_leave, Cond.selects RX5 yX5_leave yX5_leave, Cond.code yX5_leave cX5_leave 3 none, Cond.fieldLink RX5 83 "HoldBenchModel" "leftBadly" "I", Cond.code yX5_block cX5_block 4 (some .int)]
def wsX5_hold_r2 : List Cond := [Cond.fieldLink RX5 19 "HoldBenchModel" "many" "[I", Cond.fieldLink RX5 89 "HoldBenchModel" "done" "I", Cond.methodLink RX5 92 yX5_doStep, Cond.instanceMethod yX5_doStep, Cond.selects RX5 yX5_doStep yX5_doStep, Cond.code yX5_both cX5_both 6 (some .int), Cond.fieldLink RX5 86 "HoldBenchModel" "what" "I", Cond.code yX5_call cX5_call 4 (some .int), Cond.fieldLink RX5 105 "HoldBenchModel" "loops" "I", Cond.code yX5_doStep cX5_doStep 4 (some .int), Cond.fieldLink RX5 25 "HoldBenchModel" "as" "[I", Cond.fieldLink RX5 28 "HoldBenchModel" "xs" "[I", Cond.fieldLink RX5 22 "HoldBenchModel" "kinds" "[I", Cond.fieldLink RX5 7 "HoldBenchModel" "placed" "[I", Cond.fieldLink RX5 111 "HoldBenchModel" "refused" "I", Cond.fieldLink RX5 31 "HoldBenchModel" "ys" "[I", Cond.fieldLink RX5 45 "HoldBenchModel" "things" "I", Cond.methodLink RX5 108 yX5_throwing, Cond.instanceMethod yX5_throwing, Cond.selects RX5 yX5_throwing yX5_throwing, Cond.code yX5_throwing cX5_throwing 2 (some .int), Cond.methodLink RX5 114 yX5_hold, Cond.instanceMethod yX5_hold, Cond.selects RX5 yX5_hold yX5_hold]
def wsX5_hold_r3 : List Cond := [Cond.methodLink RX5 118 yX5_loop, Cond.instanceMethod yX5_loop, Cond.selects RX5 yX5_loop yX5_loop, Cond.methodLink RX5 121 yX5_tried, Cond.instanceMethod yX5_tried, Cond.selects RX5 yX5_tried yX5_tried, Cond.methodLink RX5 125 yX5_both, Cond.instanceMethod yX5_both, Cond.selects RX5 yX5_both yX5_both, Cond.methodLink RX5 128 yX5_call, Cond.instanceMethod yX5_call, Cond.selects RX5 yX5_call yX5_call, Cond.methodLink RX5 131 yX5_add, Cond.instanceMethod yX5_add, Cond.selects RX5 yX5_add yX5_add, Cond.code yX5_add cX5_add 3 (some .int), Cond.fieldLink RX5 13 "HoldBenchModel" "number" "[I", Cond.methodLink RX5 52 yX5_made, Cond.instanceMethod yX5_made, Cond.selects RX5 yX5_made yX5_made, Cond.code yX5_made cX5_made 2 (some .int), Cond.methodLink RX5 134 yX5_sweep, Cond.instanceMethod yX5_sweep, Cond.selects RX5 yX5_sweep yX5_sweep]
def wsX5_hold_r4 : List Cond := [Cond.code yX5_sweep cX5_sweep 6 (some .int), Cond.code yX5_loop cX5_loop 5 (some .int), Cond.code yX5_tried cX5_tried 6 (some .int)]
def wsX5_hold : List Cond := .code yX5_hold cX5_hold 4 (some .int) :: ((wsX5_hold_r1 ++ (wsX5_hold_r2 ++ (wsX5_hold_r3 ++ wsX5_hold_r4))) ++ wsX50)
def wsX5_loop_r1 : List Cond := [Cond.fieldLink RX5 105 "HoldBenchModel" "loops" "I", Cond.methodLink RX5 98 yX5_block, Cond.instanceMethod yX5_block, Cond.selects RX5 yX5_block yX5_block, Cond.initialized RX5, Cond.code yX5_block cX5_block 4 (some .int), Cond.fieldLink RX5 19 "HoldBenchModel" "many" "[I", Cond.fieldLink RX5 89 "HoldBenchModel" "done" "I", Cond.methodLink RX5 92 yX5_doStep, Cond.instanceMethod yX5_doStep, Cond.selects RX5 yX5_doStep yX5_doStep, Cond.code yX5_both cX5_both 6 (some .int), Cond.fieldLink RX5 86 "HoldBenchModel" "what" "I", Cond.code yX5_call cX5_call 4 (some .int), Cond.code yX5_doStep cX5_doStep 4 (some .int), Cond.fieldLink RX5 25 "HoldBenchModel" "as" "[I", Cond.fieldLink RX5 28 "HoldBenchModel" "xs" "[I", Cond.fieldLink RX5 22 "HoldBenchModel" "kinds" "[I", Cond.fieldLink RX5 7 "HoldBenchModel" "placed" "[I", Cond.fieldLink RX5 111 "HoldBenchModel" "refused" "I", Cond.fieldLink RX5 31 "HoldBenchModel" "ys" "[I", Cond.fieldLink RX5 45 "HoldBenchModel" "things" "I", Cond.methodLink RX5 79 yX5_comes, Cond.instanceMethod yX5_comes]
def wsX5_loop_r2 : List Cond := [Cond.selects RX5 yX5_comes yX5_comes, Cond.code yX5_comes cX5_comes 2 none, Cond.fieldLink RX5 67 "HoldBenchModel" "traced" "I", Cond.fieldLink RX5 34 "HoldBenchModel" "trace" "[I", Cond.methodLink RX5 108 yX5_throwing, Cond.instanceMethod yX5_throwing, Cond.selects RX5 yX5_throwing yX5_throwing, Cond.code yX5_throwing cX5_throwing 2 (some .int), Cond.methodLink RX5 114 yX5_hold, Cond.instanceMethod yX5_hold, Cond.selects RX5 yX5_hold yX5_hold, Cond.methodLink RX5 118 yX5_loop, Cond.instanceMethod yX5_loop, Cond.selects RX5 yX5_loop yX5_loop, Cond.methodLink RX5 121 yX5_tried, Cond.instanceMethod yX5_tried, Cond.selects RX5 yX5_tried yX5_tried, Cond.methodLink RX5 125 yX5_both, Cond.instanceMethod yX5_both, Cond.selects RX5 yX5_both yX5_both, Cond.methodLink RX5 128 yX5_call, Cond.instanceMethod yX5_call, Cond.selects RX5 yX5_call yX5_call, Cond.methodLink RX5 131 yX5_add]
def wsX5_loop_r3 : List Cond := [Cond.instanceMethod yX5_add, Cond.selects RX5 yX5_add yX5_add, Cond.code yX5_add cX5_add 3 (some .int), Cond.fieldLink RX5 16 "HoldBenchModel" "depth" "[I", Cond.fieldLink RX5 13 "HoldBenchModel" "number" "[I", Cond.methodLink RX5 52 yX5_made, Cond.instanceMethod yX5_made, Cond.selects RX5 yX5_made yX5_made, Cond.code yX5_made cX5_made 2 (some .int), Cond.methodLink RX5 134 yX5_sweep, Cond.instanceMethod yX5_sweep, Cond.selects RX5 yX5_sweep yX5_sweep, Cond.code yX5_sweep cX5_sweep 6 (some .int), Cond.methodLink RX5 95 yX5_begin, Cond.instanceMethod yX5_begin, Cond.selects RX5 yX5_begin yX5_begin, Cond.code yX5_begin cX5_begin 2 none, Cond.fieldLink RX5 70 "HoldBenchModel" "holds" "I", Cond.fieldLink RX5 73 "HoldBenchModel" "underWay" "I", Cond.fieldLink RX5 76 "HoldBenchModel" "most" "I", Cond.methodLink RX5 101 yX5_leave, Cond.instanceMethod yX5_leave, Cond.selects RX5 yX5_leave yX5_leave, Cond.code yX5_leave cX5_leave 3 none]
def wsX5_loop_r4 : List Cond := [Cond.fieldLink RX5 83 "HoldBenchModel" "leftBadly" "I", Cond.code yX5_hold cX5_hold 4 (some .int), Cond.code yX5_tried cX5_tried 6 (some .int)]
def wsX5_loop : List Cond := .code yX5_loop cX5_loop 5 (some .int) :: ((wsX5_loop_r1 ++ (wsX5_loop_r2 ++ (wsX5_loop_r3 ++ wsX5_loop_r4))) ++ wsX50)
def wsX5_tried_r1 : List Cond := [Cond.fieldLink RX5 105 "HoldBenchModel" "loops" "I", Cond.fieldLink RX5 86 "HoldBenchModel" "what" "I", Cond.methodLink RX5 98 yX5_block, Cond.instanceMethod yX5_block, Cond.selects RX5 yX5_block yX5_block, Cond.initialized RX5, Cond.code yX5_block cX5_block 4 (some .int), Cond.fieldLink RX5 19 "HoldBenchModel" "many" "[I", Cond.fieldLink RX5 89 "HoldBenchModel" "done" "I", Cond.methodLink RX5 92 yX5_doStep, Cond.instanceMethod yX5_doStep, Cond.selects RX5 yX5_doStep yX5_doStep, Cond.code yX5_both cX5_both 6 (some .int), Cond.code yX5_call cX5_call 4 (some .int), Cond.code yX5_doStep cX5_doStep 4 (some .int), Cond.fieldLink RX5 25 "HoldBenchModel" "as" "[I", Cond.fieldLink RX5 28 "HoldBenchModel" "xs" "[I", Cond.fieldLink RX5 22 "HoldBenchModel" "kinds" "[I", Cond.fieldLink RX5 7 "HoldBenchModel" "placed" "[I", Cond.fieldLink RX5 111 "HoldBenchModel" "refused" "I", Cond.fieldLink RX5 31 "HoldBenchModel" "ys" "[I", Cond.fieldLink RX5 45 "HoldBenchModel" "things" "I", Cond.methodLink RX5 79 yX5_comes, Cond.instanceMethod yX5_comes]
def wsX5_tried_r2 : List Cond := [Cond.selects RX5 yX5_comes yX5_comes, Cond.code yX5_comes cX5_comes 2 none, Cond.fieldLink RX5 67 "HoldBenchModel" "traced" "I", Cond.fieldLink RX5 34 "HoldBenchModel" "trace" "[I", Cond.methodLink RX5 108 yX5_throwing, Cond.instanceMethod yX5_throwing, Cond.selects RX5 yX5_throwing yX5_throwing, Cond.code yX5_throwing cX5_throwing 2 (some .int), Cond.methodLink RX5 114 yX5_hold, Cond.instanceMethod yX5_hold, Cond.selects RX5 yX5_hold yX5_hold, Cond.methodLink RX5 118 yX5_loop, Cond.instanceMethod yX5_loop, Cond.selects RX5 yX5_loop yX5_loop, Cond.methodLink RX5 121 yX5_tried, Cond.instanceMethod yX5_tried, Cond.selects RX5 yX5_tried yX5_tried, Cond.methodLink RX5 125 yX5_both, Cond.instanceMethod yX5_both, Cond.selects RX5 yX5_both yX5_both, Cond.methodLink RX5 128 yX5_call, Cond.instanceMethod yX5_call, Cond.selects RX5 yX5_call yX5_call, Cond.methodLink RX5 131 yX5_add]
def wsX5_tried_r3 : List Cond := [Cond.instanceMethod yX5_add, Cond.selects RX5 yX5_add yX5_add, Cond.code yX5_add cX5_add 3 (some .int), Cond.fieldLink RX5 16 "HoldBenchModel" "depth" "[I", Cond.fieldLink RX5 13 "HoldBenchModel" "number" "[I", Cond.methodLink RX5 52 yX5_made, Cond.instanceMethod yX5_made, Cond.selects RX5 yX5_made yX5_made, Cond.code yX5_made cX5_made 2 (some .int), Cond.methodLink RX5 134 yX5_sweep, Cond.instanceMethod yX5_sweep, Cond.selects RX5 yX5_sweep yX5_sweep, Cond.code yX5_sweep cX5_sweep 6 (some .int), Cond.methodLink RX5 95 yX5_begin, Cond.instanceMethod yX5_begin, Cond.selects RX5 yX5_begin yX5_begin, Cond.code yX5_begin cX5_begin 2 none, Cond.fieldLink RX5 70 "HoldBenchModel" "holds" "I", Cond.fieldLink RX5 73 "HoldBenchModel" "underWay" "I", Cond.fieldLink RX5 76 "HoldBenchModel" "most" "I", Cond.methodLink RX5 101 yX5_leave, Cond.instanceMethod yX5_leave, Cond.selects RX5 yX5_leave yX5_leave, Cond.code yX5_leave cX5_leave 3 none]
def wsX5_tried_r4 : List Cond := [Cond.fieldLink RX5 83 "HoldBenchModel" "leftBadly" "I", Cond.code yX5_hold cX5_hold 4 (some .int), Cond.code yX5_loop cX5_loop 5 (some .int)]
def wsX5_tried : List Cond := .code yX5_tried cX5_tried 6 (some .int) :: ((wsX5_tried_r1 ++ (wsX5_tried_r2 ++ (wsX5_tried_r3 ++ wsX5_tried_r4))) ++ wsX50)
def wsX5_run_r1 : List Cond := [Cond.fieldLink RX5 37 "HoldBenchModel" "thrown" "I", Cond.fieldLink RX5 111 "HoldBenchModel" "refused" "I", Cond.fieldLink RX5 137 "HoldBenchModel" "runs" "I", Cond.fieldLink RX5 67 "HoldBenchModel" "traced" "I", Cond.fieldLink RX5 89 "HoldBenchModel" "done" "I", Cond.fieldLink RX5 70 "HoldBenchModel" "holds" "I", Cond.fieldLink RX5 76 "HoldBenchModel" "most" "I", Cond.fieldLink RX5 83 "HoldBenchModel" "leftBadly" "I", Cond.fieldLink RX5 73 "HoldBenchModel" "underWay" "I", Cond.fieldLink RX5 105 "HoldBenchModel" "loops" "I", Cond.fieldLink RX5 86 "HoldBenchModel" "what" "I", Cond.methodLink RX5 98 yX5_block, Cond.instanceMethod yX5_block, Cond.selects RX5 yX5_block yX5_block, Cond.initialized RX5, Cond.code yX5_block cX5_block 4 (some .int), Cond.fieldLink RX5 19 "HoldBenchModel" "many" "[I", Cond.methodLink RX5 92 yX5_doStep, Cond.instanceMethod yX5_doStep, Cond.selects RX5 yX5_doStep yX5_doStep, Cond.code yX5_both cX5_both 6 (some .int), Cond.code yX5_call cX5_call 4 (some .int), Cond.code yX5_doStep cX5_doStep 4 (some .int), Cond.fieldLink RX5 25 "HoldBenchModel" "as" "[I"]
def wsX5_run_r2 : List Cond := [Cond.fieldLink RX5 28 "HoldBenchModel" "xs" "[I", Cond.fieldLink RX5 22 "HoldBenchModel" "kinds" "[I", Cond.fieldLink RX5 7 "HoldBenchModel" "placed" "[I", Cond.fieldLink RX5 31 "HoldBenchModel" "ys" "[I", Cond.fieldLink RX5 45 "HoldBenchModel" "things" "I", Cond.methodLink RX5 79 yX5_comes, Cond.instanceMethod yX5_comes, Cond.selects RX5 yX5_comes yX5_comes, Cond.code yX5_comes cX5_comes 2 none, Cond.fieldLink RX5 34 "HoldBenchModel" "trace" "[I", Cond.methodLink RX5 108 yX5_throwing, Cond.instanceMethod yX5_throwing, Cond.selects RX5 yX5_throwing yX5_throwing, Cond.code yX5_throwing cX5_throwing 2 (some .int), Cond.methodLink RX5 114 yX5_hold, Cond.instanceMethod yX5_hold, Cond.selects RX5 yX5_hold yX5_hold, Cond.methodLink RX5 118 yX5_loop, Cond.instanceMethod yX5_loop, Cond.selects RX5 yX5_loop yX5_loop, Cond.methodLink RX5 121 yX5_tried, Cond.instanceMethod yX5_tried, Cond.selects RX5 yX5_tried yX5_tried, Cond.methodLink RX5 125 yX5_both]
def wsX5_run_r3 : List Cond := [Cond.instanceMethod yX5_both, Cond.selects RX5 yX5_both yX5_both, Cond.methodLink RX5 128 yX5_call, Cond.instanceMethod yX5_call, Cond.selects RX5 yX5_call yX5_call, Cond.methodLink RX5 131 yX5_add, Cond.instanceMethod yX5_add, Cond.selects RX5 yX5_add yX5_add, Cond.code yX5_add cX5_add 3 (some .int), Cond.fieldLink RX5 16 "HoldBenchModel" "depth" "[I", Cond.fieldLink RX5 13 "HoldBenchModel" "number" "[I", Cond.methodLink RX5 52 yX5_made, Cond.instanceMethod yX5_made, Cond.selects RX5 yX5_made yX5_made, Cond.code yX5_made cX5_made 2 (some .int), Cond.methodLink RX5 134 yX5_sweep, Cond.instanceMethod yX5_sweep, Cond.selects RX5 yX5_sweep yX5_sweep, Cond.code yX5_sweep cX5_sweep 6 (some .int), Cond.methodLink RX5 95 yX5_begin, Cond.instanceMethod yX5_begin, Cond.selects RX5 yX5_begin yX5_begin, Cond.code yX5_begin cX5_begin 2 none, Cond.methodLink RX5 101 yX5_leave]
def wsX5_run_r4 : List Cond := [Cond.instanceMethod yX5_leave, Cond.selects RX5 yX5_leave yX5_leave, Cond.code yX5_leave cX5_leave 3 none, Cond.code yX5_hold cX5_hold 4 (some .int), Cond.code yX5_loop cX5_loop 5 (some .int), Cond.code yX5_tried cX5_tried 6 (some .int)]
def wsX5_run : List Cond := .code yX5_run cX5_run 2 (some .int) :: ((wsX5_run_r1 ++ (wsX5_run_r2 ++ (wsX5_run_r3 ++ wsX5_run_r4))) ++ wsX50)
def wsX5_trace : List Cond := .code yX5_trace cX5_trace 2 (some .int) :: ([.fieldLink RX5 37 "HoldBenchModel" "thrown" "I", .fieldLink RX5 67 "HoldBenchModel" "traced" "I", .fieldLink RX5 34 "HoldBenchModel" "trace" "[I", .methodLink RX5 41 yX5_in, .static yX5_in, .initialized RX5, .code yX5_in cX5_in 3 (some .boolean)] ++ wsX50)
def wsX5_told : List Cond := .code yX5_told cX5_told 2 (some .int) :: ([.fieldLink RX5 37 "HoldBenchModel" "thrown" "I", .fieldLink RX5 67 "HoldBenchModel" "traced" "I", .fieldLink RX5 89 "HoldBenchModel" "done" "I", .fieldLink RX5 70 "HoldBenchModel" "holds" "I", .fieldLink RX5 76 "HoldBenchModel" "most" "I", .fieldLink RX5 83 "HoldBenchModel" "leftBadly" "I"] ++ wsX50)
def wsX5_at : List Cond := .code yX5_at cX5_at 2 (some .int) :: ([.fieldLink RX5 37 "HoldBenchModel" "thrown" "I", .fieldLink RX5 7 "HoldBenchModel" "placed" "[I", .methodLink RX5 48 yX5_isPlace, .static yX5_isPlace, .initialized RX5, .code yX5_isPlace cX5_isPlace 1 (some .boolean), .methodLink RX5 41 yX5_in, .static yX5_in, .code yX5_in cX5_in 3 (some .boolean)] ++ wsX50)
def wsX5_number : List Cond := .code yX5_number cX5_number 2 (some .int) :: ([.fieldLink RX5 37 "HoldBenchModel" "thrown" "I", .fieldLink RX5 45 "HoldBenchModel" "things" "I", .fieldLink RX5 13 "HoldBenchModel" "number" "[I", .methodLink RX5 41 yX5_in, .static yX5_in, .initialized RX5, .code yX5_in cX5_in 3 (some .boolean)] ++ wsX50)
def wsX5_count : List Cond := .code yX5_count cX5_count 2 (some .int) :: ([.fieldLink RX5 37 "HoldBenchModel" "thrown" "I", .fieldLink RX5 45 "HoldBenchModel" "things" "I", .fieldLink RX5 64 "HoldBenchModel" "steps" "I", .fieldLink RX5 137 "HoldBenchModel" "runs" "I", .fieldLink RX5 111 "HoldBenchModel" "refused" "I"] ++ wsX50)
def wsJ9_max_7cf53 : List Cond := .code yJ9_max_7cf53 cJ9_max_7cf53 2 (some .int) :: ([])
def wsJ9_min_7cf53 : List Cond := .code yJ9_min_7cf53 cJ9_min_7cf53 2 (some .int) :: ([])
def wsL_law_r1 : List Cond := [Cond.classLink RL 7 RX4, Cond.instantiable RX4 5, Cond.initialized RX4, Cond.classLink RL 10 RX5, Cond.instantiable RX5 22, Cond.initialized RX5, Cond.methodLink RL 9 yX4_init, Cond.instanceMethod yX4_init, Cond.code yX4_init cX4_init 1 none, Cond.methodLink RX4 1 objectInit, Cond.instanceMethod objectInit, Cond.code objectInit ⟨#[0xb1]⟩ 1 none, Cond.classLink RX4 7 RX2, Cond.instantiable RX2 4, Cond.initialized RX2, Cond.fieldLink RX4 10 "HoldBench" "shelf" "LHoldBench$Shelf;", Cond.classLink RX4 16 RX0, Cond.instantiable RX0 6, Cond.initialized RX0, Cond.fieldLink RX4 19 "HoldBench" "program" "LHoldBench$Program;", Cond.classLink RX4 23 RX3, Cond.instantiable RX3 7, Cond.initialized RX3, Cond.fieldLink RX4 26 "HoldBench" "tally" "LHoldBench$Tally;"]
def wsL_law_r2 : List Cond := [Cond.classLink RX4 30 RX1, Cond.instantiable RX1 4, Cond.initialized RX1, Cond.fieldLink RX4 35 "HoldBench" "runner" "LHoldBench$Runner;", Cond.fieldLink RX4 39 "HoldBench" "runs" "I", Cond.instanceMethod yX2_init, Cond.code yX2_init cX2_init 1 none, Cond.methodLink RX2 3 objectInit, Cond.arrayClass .int, Cond.fieldLink RX2 9 "HoldBench$Shelf" "places" "[I", Cond.fieldLink RX2 21 "HoldBench$Shelf" "numbers" "[I", Cond.fieldLink RX2 24 "HoldBench$Shelf" "depths" "[I", Cond.fieldLink RX2 27 "HoldBench$Shelf" "made" "I", Cond.methodLink RX2 15 yJ7_fill_53178, Cond.static yJ7_fill_53178, Cond.initialized RJ7, Cond.code yJ7_fill_53178 cJ7_fill_53178 4 none, Cond.instanceMethod yX0_init, Cond.code yX0_init cX0_init 2 none, Cond.methodLink RX0 3 objectInit, Cond.fieldLink RX0 9 "HoldBench$Program" "sizes" "[I", Cond.fieldLink RX0 15 "HoldBench$Program" "kinds" "[I", Cond.fieldLink RX0 18 "HoldBench$Program" "as" "[I", Cond.fieldLink RX0 21 "HoldBench$Program" "xs" "[I"]
def wsL_law_r3 : List Cond := [Cond.fieldLink RX0 24 "HoldBench$Program" "ys" "[I", Cond.fieldLink RX0 27 "HoldBench$Program" "total" "I", Cond.instanceMethod yX3_init, Cond.code yX3_init cX3_init 1 none, Cond.methodLink RX3 3 objectInit, Cond.fieldLink RX3 9 "HoldBench$Tally" "entries" "[I", Cond.methodLink RX3 15 yX3_restart, Cond.instanceMethod yX3_restart, Cond.selects RX3 yX3_restart yX3_restart, Cond.code yX3_restart cX3_restart 1 none, Cond.fieldLink RX3 18 "HoldBench$Tally" "entered" "I", Cond.fieldLink RX3 22 "HoldBench$Tally" "steps" "I", Cond.fieldLink RX3 25 "HoldBench$Tally" "holds" "I", Cond.fieldLink RX3 28 "HoldBench$Tally" "underWay" "I", Cond.fieldLink RX3 31 "HoldBench$Tally" "most" "I", Cond.fieldLink RX3 34 "HoldBench$Tally" "cutShort" "I", Cond.instanceMethod yX1_init, Cond.code yX1_init cX1_init 4 none, Cond.methodLink RX1 3 objectInit, Cond.fieldLink RX1 9 "HoldBench$Runner" "shelf" "LHoldBench$Shelf;", Cond.fieldLink RX1 15 "HoldBench$Runner" "program" "LHoldBench$Program;", Cond.fieldLink RX1 19 "HoldBench$Runner" "tally" "LHoldBench$Tally;", Cond.fieldLink RX1 23 "HoldBench$Runner" "refused" "I", Cond.methodLink RL 12 yX5_init]
def wsL_law_r4 : List Cond := [Cond.instanceMethod yX5_init, Cond.code yX5_init cX5_init 2 none, Cond.methodLink RX5 1 objectInit, Cond.fieldLink RX5 7 "HoldBenchModel" "placed" "[I", Cond.fieldLink RX5 13 "HoldBenchModel" "number" "[I", Cond.fieldLink RX5 16 "HoldBenchModel" "depth" "[I", Cond.fieldLink RX5 19 "HoldBenchModel" "many" "[I", Cond.fieldLink RX5 22 "HoldBenchModel" "kinds" "[I", Cond.fieldLink RX5 25 "HoldBenchModel" "as" "[I", Cond.fieldLink RX5 28 "HoldBenchModel" "xs" "[I", Cond.fieldLink RX5 31 "HoldBenchModel" "ys" "[I", Cond.fieldLink RX5 34 "HoldBenchModel" "trace" "[I", Cond.methodLink RL 13 yX4_thing, Cond.instanceMethod yX4_thing, Cond.selects RX4 yX4_thing yX4_thing, Cond.code yX4_thing cX4_thing 2 (some .int), Cond.methodLink RX4 43 yX4_isPlace, Cond.static yX4_isPlace, Cond.code yX4_isPlace cX4_isPlace 1 (some .boolean), Cond.methodLink RX4 109 yX4_isWithin, Cond.static yX4_isWithin, Cond.code yX4_isWithin cX4_isWithin 3 (some .boolean), Cond.instanceMethod yX2_makeThing, Cond.selects RX2 yX2_makeThing yX2_makeThing]
def wsL_law_r5 : List Cond := [Cond.code yX2_makeThing cX2_makeThing 3 (some .int), Cond.methodLink RX2 31 yX2_put, Cond.instanceMethod yX2_put, Cond.selects RX2 yX2_put yX2_put, Cond.code yX2_put cX2_put 3 none, Cond.methodLink RL 17 yX5_thing, Cond.instanceMethod yX5_thing, Cond.selects RX5 yX5_thing yX5_thing, Cond.code yX5_thing cX5_thing 2 (some .int), Cond.fieldLink RX5 37 "HoldBenchModel" "thrown" "I", Cond.fieldLink RX5 45 "HoldBenchModel" "things" "I", Cond.methodLink RX5 48 yX5_isPlace, Cond.static yX5_isPlace, Cond.code yX5_isPlace cX5_isPlace 1 (some .boolean), Cond.methodLink RX5 41 yX5_in, Cond.static yX5_in, Cond.code yX5_in cX5_in 3 (some .boolean), Cond.methodLink RX5 52 yX5_made, Cond.instanceMethod yX5_made, Cond.selects RX5 yX5_made yX5_made, Cond.code yX5_made cX5_made 2 (some .int), Cond.methodLink RL 18 yX4_set, Cond.instanceMethod yX4_set, Cond.selects RX4 yX4_set yX4_set]
def wsL_law_r6 : List Cond := [Cond.code yX4_set cX4_set 4 (some .int), Cond.instanceMethod yX2_thingIn, Cond.selects RX2 yX2_thingIn yX2_thingIn, Cond.code yX2_thingIn cX2_thingIn 2 (some .int), Cond.methodLink RL 22 yX5_set, Cond.instanceMethod yX5_set, Cond.selects RX5 yX5_set yX5_set, Cond.code yX5_set cX5_set 3 (some .int), Cond.methodLink RL 23 yX4_step, Cond.instanceMethod yX4_step, Cond.selects RX4 yX4_step yX4_step, Cond.code yX4_step cX4_step 6 (some .int), Cond.methodLink RX4 58 yX4_isStep, Cond.static yX4_isStep, Cond.code yX4_isStep cX4_isStep 5 (some .boolean), Cond.methodLink RX4 113 yX4_isBlock, Cond.static yX4_isBlock, Cond.code yX4_isBlock cX4_isBlock 1 (some .boolean), Cond.methodLink RX4 116 yX4_isLater, Cond.static yX4_isLater, Cond.code yX4_isLater cX4_isLater 2 (some .boolean), Cond.instanceMethod yX0_append, Cond.selects RX0 yX0_append yX0_append, Cond.code yX0_append cX0_append 7 (some .int)]
def wsL_law_r7 : List Cond := [Cond.methodLink RL 27 yX5_step, Cond.instanceMethod yX5_step, Cond.selects RX5 yX5_step yX5_step, Cond.code yX5_step cX5_step 7 (some .int), Cond.fieldLink RX5 64 "HoldBenchModel" "steps" "I", Cond.methodLink RX5 60 yX5_isRight, Cond.static yX5_isRight, Cond.code yX5_isRight cX5_isRight 5 (some .boolean), Cond.methodLink RX5 56 yX5_isBelow, Cond.static yX5_isBelow, Cond.code yX5_isBelow cX5_isBelow 2 (some .boolean), Cond.methodLink RL 28 yX4_clear, Cond.instanceMethod yX4_clear, Cond.selects RX4 yX4_clear yX4_clear, Cond.code yX4_clear cX4_clear 2 (some .int), Cond.instanceMethod yX0_empty, Cond.selects RX0 yX0_empty yX0_empty, Cond.code yX0_empty cX0_empty 3 (some .int), Cond.methodLink RL 31 yX5_clear, Cond.instanceMethod yX5_clear, Cond.selects RX5 yX5_clear yX5_clear, Cond.code yX5_clear cX5_clear 3 (some .int), Cond.methodLink RL 32 yX4_run, Cond.instanceMethod yX4_run]
def wsL_law_r8 : List Cond := [Cond.selects RX4 yX4_run yX4_run, Cond.code yX4_run cX4_run 2 (some .int), Cond.instanceMethod yX1_doBlock, Cond.selects RX1 yX1_doBlock yX1_doBlock, Cond.code yX1_doBlock cX1_doBlock 7 (some .int), Cond.methodLink RX1 37 Lib.Math.min.name, Cond.static Lib.Math.min.name, Cond.initialized "java/lang/Math", Cond.code Lib.Math.min.name Lib.Math.min.code 2 (some .int), Cond.methodLink RX1 43 yX1_doStep, Cond.instanceMethod yX1_doStep, Cond.selects RX1 yX1_doStep yX1_doStep, Cond.code yX1_doBoth cX1_doBoth 7 (some .int), Cond.methodLink RX1 108 yX1_doBlock, Cond.code yX1_doCall cX1_doCall 4 (some .int), Cond.code yX1_doHold cX1_doHold 7 (some .int), Cond.methodLink RX1 105 yX1_beginHold, Cond.instanceMethod yX1_beginHold, Cond.selects RX1 yX1_beginHold yX1_beginHold, Cond.code yX1_beginHold cX1_beginHold 2 none, Cond.instanceMethod yX2_deepen, Cond.selects RX2 yX2_deepen yX2_deepen, Cond.code yX2_deepen cX2_deepen 3 none, Cond.methodLink RX2 39 yX2_isThing]
def wsL_law_r9 : List Cond := [Cond.instanceMethod yX2_isThing, Cond.selects RX2 yX2_isThing yX2_isThing, Cond.code yX2_isThing cX2_isThing 2 (some .boolean), Cond.instanceMethod yX3_enterBegun, Cond.selects RX3 yX3_enterBegun yX3_enterBegun, Cond.code yX3_enterBegun cX3_enterBegun 2 none, Cond.methodLink RX3 51 Lib.Math.max.name, Cond.static Lib.Math.max.name, Cond.code Lib.Math.max.name Lib.Math.max.code 2 (some .int), Cond.methodLink RX3 47 yX3_enter, Cond.instanceMethod yX3_enter, Cond.selects RX3 yX3_enter yX3_enter, Cond.code yX3_enter cX3_enter 2 none, Cond.static yX4_isThrown, Cond.code yX4_isThrown cX4_isThrown 1 (some .boolean), Cond.methodLink RX1 114 yX1_leaveHold, Cond.instanceMethod yX1_leaveHold, Cond.selects RX1 yX1_leaveHold yX1_leaveHold, Cond.code yX1_leaveHold cX1_leaveHold 3 none, Cond.instanceMethod yX3_enterLeft, Cond.selects RX3 yX3_enterLeft yX3_enterLeft, Cond.code yX3_enterLeft cX3_enterLeft 3 none, Cond.code yX1_doLoop cX1_doLoop 7 (some .int), Cond.code yX1_doStep cX1_doStep 7 (some .int)]
def wsL_law_r10 : List Cond := [Cond.instanceMethod yX3_enterMark, Cond.selects RX3 yX3_enterMark yX3_enterMark, Cond.code yX3_enterMark cX3_enterMark 2 none, Cond.methodLink RX1 68 yX1_doHold, Cond.instanceMethod yX1_doHold, Cond.selects RX1 yX1_doHold yX1_doHold, Cond.methodLink RX1 72 yX1_doLoop, Cond.instanceMethod yX1_doLoop, Cond.selects RX1 yX1_doLoop yX1_doLoop, Cond.methodLink RX1 76 yX1_doTry, Cond.instanceMethod yX1_doTry, Cond.selects RX1 yX1_doTry yX1_doTry, Cond.methodLink RX1 80 yX1_doBoth, Cond.instanceMethod yX1_doBoth, Cond.selects RX1 yX1_doBoth yX1_doBoth, Cond.methodLink RX1 83 yX1_doCall, Cond.instanceMethod yX1_doCall, Cond.selects RX1 yX1_doCall yX1_doCall, Cond.methodLink RX1 86 yX1_doAdd, Cond.instanceMethod yX1_doAdd, Cond.selects RX1 yX1_doAdd yX1_doAdd, Cond.code yX1_doAdd cX1_doAdd 4 (some .int), Cond.instanceMethod yX2_isHeld, Cond.selects RX2 yX2_isHeld yX2_isHeld]
def wsL_law_r11 : List Cond := [Cond.code yX2_isHeld cX2_isHeld 2 (some .boolean), Cond.instanceMethod yX2_raiseNumber, Cond.selects RX2 yX2_raiseNumber yX2_raiseNumber, Cond.code yX2_raiseNumber cX2_raiseNumber 3 none, Cond.methodLink RX1 99 yX1_doNew, Cond.instanceMethod yX1_doNew, Cond.selects RX1 yX1_doNew yX1_doNew, Cond.code yX1_doNew cX1_doNew 2 (some .int), Cond.methodLink RX1 102 yX1_doSweep, Cond.instanceMethod yX1_doSweep, Cond.selects RX1 yX1_doSweep yX1_doSweep, Cond.code yX1_doSweep cX1_doSweep 7 none, Cond.instanceMethod yX2_numberOf, Cond.selects RX2 yX2_numberOf yX2_numberOf, Cond.code yX2_numberOf cX2_numberOf 2 (some .int), Cond.code yX1_doTry cX1_doTry 8 (some .int), Cond.methodLink RX4 79 yX4_isThrown, Cond.methodLink RL 36 yX5_run, Cond.instanceMethod yX5_run, Cond.selects RX5 yX5_run yX5_run, Cond.code yX5_run cX5_run 2 (some .int), Cond.fieldLink RX5 111 "HoldBenchModel" "refused" "I", Cond.fieldLink RX5 137 "HoldBenchModel" "runs" "I", Cond.fieldLink RX5 67 "HoldBenchModel" "traced" "I"]
def wsL_law_r12 : List Cond := [Cond.fieldLink RX5 89 "HoldBenchModel" "done" "I", Cond.fieldLink RX5 70 "HoldBenchModel" "holds" "I", Cond.fieldLink RX5 76 "HoldBenchModel" "most" "I", Cond.fieldLink RX5 83 "HoldBenchModel" "leftBadly" "I", Cond.fieldLink RX5 73 "HoldBenchModel" "underWay" "I", Cond.fieldLink RX5 105 "HoldBenchModel" "loops" "I", Cond.fieldLink RX5 86 "HoldBenchModel" "what" "I", Cond.methodLink RX5 98 yX5_block, Cond.instanceMethod yX5_block, Cond.selects RX5 yX5_block yX5_block, Cond.code yX5_block cX5_block 4 (some .int), Cond.methodLink RX5 92 yX5_doStep, Cond.instanceMethod yX5_doStep, Cond.selects RX5 yX5_doStep yX5_doStep, Cond.code yX5_both cX5_both 6 (some .int), Cond.code yX5_call cX5_call 4 (some .int), Cond.code yX5_doStep cX5_doStep 4 (some .int), Cond.methodLink RX5 79 yX5_comes, Cond.instanceMethod yX5_comes, Cond.selects RX5 yX5_comes yX5_comes, Cond.code yX5_comes cX5_comes 2 none, Cond.methodLink RX5 108 yX5_throwing, Cond.instanceMethod yX5_throwing, Cond.selects RX5 yX5_throwing yX5_throwing]
def wsL_law_r13 : List Cond := [Cond.code yX5_throwing cX5_throwing 2 (some .int), Cond.methodLink RX5 114 yX5_hold, Cond.instanceMethod yX5_hold, Cond.selects RX5 yX5_hold yX5_hold, Cond.methodLink RX5 118 yX5_loop, Cond.instanceMethod yX5_loop, Cond.selects RX5 yX5_loop yX5_loop, Cond.methodLink RX5 121 yX5_tried, Cond.instanceMethod yX5_tried, Cond.selects RX5 yX5_tried yX5_tried, Cond.methodLink RX5 125 yX5_both, Cond.instanceMethod yX5_both, Cond.selects RX5 yX5_both yX5_both, Cond.methodLink RX5 128 yX5_call, Cond.instanceMethod yX5_call, Cond.selects RX5 yX5_call yX5_call, Cond.methodLink RX5 131 yX5_add, Cond.instanceMethod yX5_add, Cond.selects RX5 yX5_add yX5_add, Cond.code yX5_add cX5_add 3 (some .int), Cond.methodLink RX5 134 yX5_sweep, Cond.instanceMethod yX5_sweep, Cond.selects RX5 yX5_sweep yX5_sweep, Cond.code yX5_sweep cX5_sweep 6 (some .int)]
def wsL_law_r14 : List Cond := [Cond.methodLink RX5 95 yX5_begin, Cond.instanceMethod yX5_begin, Cond.selects RX5 yX5_begin yX5_begin, Cond.code yX5_begin cX5_begin 2 none, Cond.methodLink RX5 101 yX5_leave, Cond.instanceMethod yX5_leave, Cond.selects RX5 yX5_leave yX5_leave, Cond.code yX5_leave cX5_leave 3 none, Cond.code yX5_hold cX5_hold 4 (some .int), Cond.code yX5_loop cX5_loop 5 (some .int), Cond.code yX5_tried cX5_tried 6 (some .int), Cond.methodLink RL 37 yX4_trace, Cond.instanceMethod yX4_trace, Cond.selects RX4 yX4_trace yX4_trace, Cond.code yX4_trace cX4_trace 2 (some .int), Cond.instanceMethod yX3_entry, Cond.selects RX3 yX3_entry yX3_entry, Cond.code yX3_entry cX3_entry 2 (some .int), Cond.methodLink RX3 37 Lib.Math.min.name, Cond.methodLink RL 40 yX5_trace, Cond.instanceMethod yX5_trace, Cond.selects RX5 yX5_trace yX5_trace, Cond.code yX5_trace cX5_trace 2 (some .int), Cond.methodLink RL 41 yX4_told]
def wsL_law_r15 : List Cond := [Cond.instanceMethod yX4_told, Cond.selects RX4 yX4_told yX4_told, Cond.code yX4_told cX4_told 2 (some .int), Cond.methodLink RL 44 yX5_told, Cond.instanceMethod yX5_told, Cond.selects RX5 yX5_told yX5_told, Cond.code yX5_told cX5_told 2 (some .int), Cond.methodLink RL 45 yX4_at, Cond.instanceMethod yX4_at, Cond.selects RX4 yX4_at yX4_at, Cond.code yX4_at cX4_at 2 (some .int), Cond.methodLink RL 48 yX5_at, Cond.instanceMethod yX5_at, Cond.selects RX5 yX5_at yX5_at, Cond.code yX5_at cX5_at 2 (some .int), Cond.methodLink RL 49 yX4_number, Cond.instanceMethod yX4_number, Cond.selects RX4 yX4_number yX4_number, Cond.code yX4_number cX4_number 2 (some .int), Cond.methodLink RL 52 yX5_number, Cond.instanceMethod yX5_number, Cond.selects RX5 yX5_number yX5_number, Cond.code yX5_number cX5_number 2 (some .int), Cond.methodLink RL 53 yX4_count]
def wsL_law_r16 : List Cond := [Cond.instanceMethod yX4_count, Cond.selects RX4 yX4_count yX4_count, Cond.code yX4_count cX4_count 2 (some .int), Cond.methodLink RL 56 yX5_count, Cond.instanceMethod yX5_count, Cond.selects RX5 yX5_count yX5_count, Cond.code yX5_count cX5_count 2 (some .int)]
def wsL_law : List Cond := (wsL_law_r1 ++ (wsL_law_r2 ++ (wsL_law_r3 ++ (wsL_law_r4 ++ (wsL_law_r5 ++ (wsL_law_r6 ++ (wsL_law_r7 ++ (wsL_law_r8 ++ (wsL_law_r9 ++ (wsL_law_r10 ++ (wsL_law_r11 ++ (wsL_law_r12 ++ (wsL_law_r13 ++ (wsL_law_r14 ++ (wsL_law_r15 ++ wsL_law_r16))))))))))))))) ++ wsX40 ++ wsX50 ++ wsX20 ++ wsX00 ++ wsX30 ++ wsX10 ++ ([] : List Cond)
end
section
set_option maxRecDepth 20000 in
theorem lin_r1 : ∀ w ∈ wsL_law_r1, w ∈ lw_tbl := fun w h => (goodIn_p wsL_law_r1 [55, 58] rfl (by decide +kernel) w h).1
set_option maxRecDepth 20000 in
theorem lin_r2 : ∀ w ∈ wsL_law_r2, w ∈ lw_tbl := fun w h => (goodIn_p wsL_law_r2 [63, 67, 87] rfl (by decide +kernel) w h).1
set_option maxRecDepth 20000 in
theorem lin_r3 : ∀ w ∈ wsL_law_r3, w ∈ lw_tbl := fun w h => (goodIn_p wsL_law_r3 [118, 123, 156] rfl (by decide +kernel) w h).1
set_option maxRecDepth 20000 in
theorem lin_r4 : ∀ w ∈ wsL_law_r4, w ∈ lw_tbl := fun w h => (goodIn_p wsL_law_r4 [377, 191, 194, 197] rfl (by decide +kernel) w h).1
set_option maxRecDepth 20000 in
theorem lin_r5 : ∀ w ∈ wsL_law_r5, w ∈ lw_tbl := fun w h => (goodIn_p wsL_law_r5 [201, 205, 449, 452, 455, 459] rfl (by decide +kernel) w h).1
set_option maxRecDepth 20000 in
theorem lin_r6 : ∀ w ∈ wsL_law_r6, w ∈ lw_tbl := fun w h => (goodIn_p wsL_law_r6 [210, 214, 463, 219, 222, 225, 228, 232] rfl (by decide +kernel) w h).1
set_option maxRecDepth 20000 in
theorem lin_r7 : ∀ w ∈ wsL_law_r7, w ∈ lw_tbl := fun w h => (goodIn_p wsL_law_r7 [467, 470, 473, 237, 241, 477] rfl (by decide +kernel) w h).1
set_option maxRecDepth 20000 in
theorem lin_r8 : ∀ w ∈ wsL_law_r8, w ∈ lw_tbl := fun w h => (goodIn_p wsL_law_r8 [245, 250, 254, 314, 318, 270, 275, 279] rfl (by decide +kernel) w h).1
end
section
set_option maxRecDepth 20000 in
theorem lin_r9 : ∀ w ∈ wsL_law_r9, w ∈ lw_tbl := fun w h => (goodIn_p wsL_law_r9 [283, 287, 290, 266, 294, 298, 302, 306, 258] rfl (by decide +kernel) w h).1
set_option maxRecDepth 20000 in
theorem lin_r10 : ∀ w ∈ wsL_law_r10, w ∈ lw_tbl := fun w h => (goodIn_p wsL_law_r10 [262, 322] rfl (by decide +kernel) w h).1
set_option maxRecDepth 20000 in
theorem lin_r11 : ∀ w ∈ wsL_law_r11, w ∈ lw_tbl := fun w h => (goodIn_p wsL_law_r11 [326, 330, 335, 340, 344, 310, 481] rfl (by decide +kernel) w h).1
set_option maxRecDepth 20000 in
theorem lin_r12 : ∀ w ∈ wsL_law_r12, w ∈ lw_tbl := fun w h => (goodIn_p wsL_law_r12 [485, 521, 525, 489, 493] rfl (by decide +kernel) w h).1
set_option maxRecDepth 20000 in
theorem lin_r13 : ∀ w ∈ wsL_law_r13, w ∈ lw_tbl := fun w h => (goodIn_p wsL_law_r13 [497, 529, 533] rfl (by decide +kernel) w h).1
set_option maxRecDepth 20000 in
theorem lin_r14 : ∀ w ∈ wsL_law_r14, w ∈ lw_tbl := fun w h => (goodIn_p wsL_law_r14 [505, 509, 501, 513, 517, 349, 353, 537] rfl (by decide +kernel) w h).1
set_option maxRecDepth 20000 in
theorem lin_r15 : ∀ w ∈ wsL_law_r15, w ∈ lw_tbl := fun w h => (goodIn_p wsL_law_r15 [359, 541, 363, 545, 367, 549] rfl (by decide +kernel) w h).1
set_option maxRecDepth 20000 in
theorem lin_r16 : ∀ w ∈ wsL_law_r16, w ∈ lw_tbl := fun w h => (goodIn_p wsL_law_r16 [372, 553] rfl (by decide +kernel) w h).1
set_option maxRecDepth 20000 in
theorem lin_wsX40 : ∀ w ∈ wsX40, w ∈ lw_tbl := by decide +kernel
set_option maxRecDepth 20000 in
theorem lin_wsX50 : ∀ w ∈ wsX50, w ∈ lw_tbl := by decide +kernel
set_option maxRecDepth 20000 in
theorem lin_wsX20 : ∀ w ∈ wsX20, w ∈ lw_tbl := by decide +kernel
set_option maxRecDepth 20000 in
theorem lin_wsX00 : ∀ w ∈ wsX00, w ∈ lw_tbl := by decide +kernel
set_option maxRecDepth 20000 in
theorem lin_wsX30 : ∀ w ∈ wsX30, w ∈ lw_tbl := by decide +kernel
set_option maxRecDepth 20000 in
theorem lin_wsX10 : ∀ w ∈ wsX10, w ∈ lw_tbl := by decide +kernel
theorem wsL_law_in : ∀ w ∈ wsL_law, w ∈ lw_tbl := List.forall_mem_append.mpr ⟨List.forall_mem_append.mpr ⟨List.forall_mem_append.mpr ⟨List.forall_mem_append.mpr ⟨List.forall_mem_append.mpr ⟨List.forall_mem_append.mpr ⟨List.forall_mem_append.mpr ⟨List.forall_mem_append.mpr ⟨lin_r1, List.forall_mem_append.mpr ⟨lin_r2, List.forall_mem_append.mpr ⟨lin_r3, List.forall_mem_append.mpr ⟨lin_r4, List.forall_mem_append.mpr ⟨lin_r5, List.forall_mem_append.mpr ⟨lin_r6, List.forall_mem_append.mpr ⟨lin_r7, List.forall_mem_append.mpr ⟨lin_r8, List.forall_mem_append.mpr ⟨lin_r9, List.forall_mem_append.mpr ⟨lin_r10, List.forall_mem_append.mpr ⟨lin_r11, List.forall_mem_append.mpr ⟨lin_r12, List.forall_mem_append.mpr ⟨lin_r13, List.forall_mem_append.mpr ⟨lin_r14, List.forall_mem_append.mpr ⟨lin_r15, lin_r16⟩⟩⟩⟩⟩⟩⟩⟩⟩⟩⟩⟩⟩⟩⟩, lin_wsX40⟩, lin_wsX50⟩, lin_wsX20⟩, lin_wsX00⟩, lin_wsX30⟩, lin_wsX10⟩, fun _ h => absurd h List.not_mem_nil⟩
theorem inlX0 : ∀ w ∈ wsX00, w ∈ wsL_law := fun _ h => List.mem_append_left _ (List.mem_append_left _ (List.mem_append_left _ (List.mem_append_right _ h)))
theorem inX0 : ∀ w ∈ wsX00, w ∈ lw_tbl := fun w h => wsL_law_in w (inlX0 w h)
theorem inlX1 : ∀ w ∈ wsX10, w ∈ wsL_law := fun _ h => List.mem_append_left _ (List.mem_append_right _ h)
theorem inX1 : ∀ w ∈ wsX10, w ∈ lw_tbl := fun w h => wsL_law_in w (inlX1 w h)
theorem inlX2 : ∀ w ∈ wsX20, w ∈ wsL_law := fun _ h => List.mem_append_left _ (List.mem_append_left _ (List.mem_append_left _ (List.mem_append_left _ (List.mem_append_right _ h))))
theorem inX2 : ∀ w ∈ wsX20, w ∈ lw_tbl := fun w h => wsL_law_in w (inlX2 w h)
theorem inlX3 : ∀ w ∈ wsX30, w ∈ wsL_law := fun _ h => List.mem_append_left _ (List.mem_append_left _ (List.mem_append_right _ h))
theorem inX3 : ∀ w ∈ wsX30, w ∈ lw_tbl := fun w h => wsL_law_in w (inlX3 w h)
theorem inlX4 : ∀ w ∈ wsX40, w ∈ wsL_law := fun _ h => List.mem_append_left _ (List.mem_append_left _ (List.mem_append_left _ (List.mem_append_left _ (List.mem_append_left _ (List.mem_append_left _ (List.mem_append_right _ h))))))
theorem inX4 : ∀ w ∈ wsX40, w ∈ lw_tbl := fun w h => wsL_law_in w (inlX4 w h)
theorem inlX5 : ∀ w ∈ wsX50, w ∈ wsL_law := fun _ h => List.mem_append_left _ (List.mem_append_left _ (List.mem_append_left _ (List.mem_append_left _ (List.mem_append_left _ (List.mem_append_right _ h)))))
theorem inX5 : ∀ w ∈ wsX50, w ∈ lw_tbl := fun w h => wsL_law_in w (inlX5 w h)
theorem inJ9 : ∀ w ∈ wsJ90, w ∈ lw_tbl := by decide +kernel
theorem inJ7 : ∀ w ∈ wsJ70, w ∈ lw_tbl := by decide +kernel
end
section
theorem dX0_init_0 : decode cX0_init 0 = .ok (.aload_n 0, 1) := by decide +kernel
theorem dX0_init_1 : decode cX0_init 1 = .ok (.invokespecial 3, 3) := by decide +kernel
theorem dX0_init_4 : decode cX0_init 4 = .ok (.sipush 480, 3) := by decide +kernel
theorem dX0_init_7 : decode cX0_init 7 = .ok (.istore_n 1, 1) := by decide +kernel
theorem dX0_init_8 : decode cX0_init 8 = .ok (.aload_n 0, 1) := by decide +kernel
theorem dX0_init_9 : decode cX0_init 9 = .ok (.bipush 40, 2) := by decide +kernel
theorem dX0_init_11 : decode cX0_init 11 = .ok (.newarray .int, 2) := by decide +kernel
theorem dX0_init_13 : decode cX0_init 13 = .ok (.putfield 9, 3) := by decide +kernel
theorem dX0_init_16 : decode cX0_init 16 = .ok (.aload_n 0, 1) := by decide +kernel
theorem dX0_init_17 : decode cX0_init 17 = .ok (.iload_n 1, 1) := by decide +kernel
theorem dX0_init_18 : decode cX0_init 18 = .ok (.newarray .int, 2) := by decide +kernel
theorem dX0_init_20 : decode cX0_init 20 = .ok (.putfield 15, 3) := by decide +kernel
theorem dX0_init_23 : decode cX0_init 23 = .ok (.aload_n 0, 1) := by decide +kernel
theorem dX0_init_24 : decode cX0_init 24 = .ok (.iload_n 1, 1) := by decide +kernel
theorem dX0_init_25 : decode cX0_init 25 = .ok (.newarray .int, 2) := by decide +kernel
theorem dX0_init_27 : decode cX0_init 27 = .ok (.putfield 18, 3) := by decide +kernel
theorem dX0_init_30 : decode cX0_init 30 = .ok (.aload_n 0, 1) := by decide +kernel
theorem dX0_init_31 : decode cX0_init 31 = .ok (.iload_n 1, 1) := by decide +kernel
theorem dX0_init_32 : decode cX0_init 32 = .ok (.newarray .int, 2) := by decide +kernel
theorem dX0_init_34 : decode cX0_init 34 = .ok (.putfield 21, 3) := by decide +kernel
theorem dX0_init_37 : decode cX0_init 37 = .ok (.aload_n 0, 1) := by decide +kernel
theorem dX0_init_38 : decode cX0_init 38 = .ok (.iload_n 1, 1) := by decide +kernel
theorem dX0_init_39 : decode cX0_init 39 = .ok (.newarray .int, 2) := by decide +kernel
theorem dX0_init_41 : decode cX0_init 41 = .ok (.putfield 24, 3) := by decide +kernel
theorem dX0_init_44 : decode cX0_init 44 = .ok (.aload_n 0, 1) := by decide +kernel
theorem dX0_init_45 : decode cX0_init 45 = .ok (.iconst 0, 1) := by decide +kernel
theorem dX0_init_46 : decode cX0_init 46 = .ok (.putfield 27, 3) := by decide +kernel
theorem dX0_init_49 : decode cX0_init 49 = .ok (.return_, 1) := by decide +kernel
set_option maxRecDepth 20000 in
theorem ggX0_append_X4_isBlock : GoodIn wsX0_append wsX4_isBlock := goodIn_r _ [9, 10, 11, 8, 12] (by decide +kernel) (by decide +kernel)
set_option maxRecDepth 20000 in
theorem gX0_append_X4_isBlock_n31 : GoodIn wsX0_append (wsX4_isBlock) := ggX0_append_X4_isBlock
theorem dX0_append_0 : decode cX0_append 0 = .ok (.iload_n 1, 1) := by decide +kernel
theorem dX0_append_1 : decode cX0_append 1 = .ok (.invokestatic 31, 3) := by decide +kernel
theorem dX0_append_4 : decode cX0_append 4 = .ok (.ifCond .ne 6, 3) := by decide +kernel
theorem dX0_append_7 : decode cX0_append 7 = .ok (.bipush (-2), 2) := by decide +kernel
theorem dX0_append_9 : decode cX0_append 9 = .ok (.ireturn, 1) := by decide +kernel
theorem dX0_append_10 : decode cX0_append 10 = .ok (.aload_n 0, 1) := by decide +kernel
theorem dX0_append_11 : decode cX0_append 11 = .ok (.getfield 27, 3) := by decide +kernel
theorem dX0_append_14 : decode cX0_append 14 = .ok (.sipush 150, 3) := by decide +kernel
theorem dX0_append_17 : decode cX0_append 17 = .ok (.if_icmp .ge 14, 3) := by decide +kernel
theorem dX0_append_20 : decode cX0_append 20 = .ok (.aload_n 0, 1) := by decide +kernel
theorem dX0_append_21 : decode cX0_append 21 = .ok (.getfield 9, 3) := by decide +kernel
theorem dX0_append_24 : decode cX0_append 24 = .ok (.iload_n 1, 1) := by decide +kernel
theorem dX0_append_25 : decode cX0_append 25 = .ok (.iaload, 1) := by decide +kernel
theorem dX0_append_26 : decode cX0_append 26 = .ok (.bipush 12, 2) := by decide +kernel
theorem dX0_append_28 : decode cX0_append 28 = .ok (.if_icmp .lt 6, 3) := by decide +kernel
theorem dX0_append_31 : decode cX0_append 31 = .ok (.bipush (-3), 2) := by decide +kernel
theorem dX0_append_33 : decode cX0_append 33 = .ok (.ireturn, 1) := by decide +kernel
theorem dX0_append_34 : decode cX0_append 34 = .ok (.iload_n 1, 1) := by decide +kernel
theorem dX0_append_35 : decode cX0_append 35 = .ok (.bipush 12, 2) := by decide +kernel
theorem dX0_append_37 : decode cX0_append 37 = .ok (.imul, 1) := by decide +kernel
theorem dX0_append_38 : decode cX0_append 38 = .ok (.aload_n 0, 1) := by decide +kernel
theorem dX0_append_39 : decode cX0_append 39 = .ok (.getfield 9, 3) := by decide +kernel
theorem dX0_append_42 : decode cX0_append 42 = .ok (.iload_n 1, 1) := by decide +kernel
theorem dX0_append_43 : decode cX0_append 43 = .ok (.iaload, 1) := by decide +kernel
theorem dX0_append_44 : decode cX0_append 44 = .ok (.iadd, 1) := by decide +kernel
theorem dX0_append_45 : decode cX0_append 45 = .ok (.istore 6, 2) := by decide +kernel
theorem dX0_append_47 : decode cX0_append 47 = .ok (.aload_n 0, 1) := by decide +kernel
theorem dX0_append_48 : decode cX0_append 48 = .ok (.getfield 15, 3) := by decide +kernel
theorem dX0_append_51 : decode cX0_append 51 = .ok (.iload 6, 2) := by decide +kernel
theorem dX0_append_53 : decode cX0_append 53 = .ok (.iload_n 2, 1) := by decide +kernel
theorem dX0_append_54 : decode cX0_append 54 = .ok (.iastore, 1) := by decide +kernel
theorem dX0_append_55 : decode cX0_append 55 = .ok (.aload_n 0, 1) := by decide +kernel
theorem dX0_append_56 : decode cX0_append 56 = .ok (.getfield 18, 3) := by decide +kernel
theorem dX0_append_59 : decode cX0_append 59 = .ok (.iload 6, 2) := by decide +kernel
theorem dX0_append_61 : decode cX0_append 61 = .ok (.iload_n 3, 1) := by decide +kernel
theorem dX0_append_62 : decode cX0_append 62 = .ok (.iastore, 1) := by decide +kernel
theorem dX0_append_63 : decode cX0_append 63 = .ok (.aload_n 0, 1) := by decide +kernel
theorem dX0_append_64 : decode cX0_append 64 = .ok (.getfield 21, 3) := by decide +kernel
theorem dX0_append_67 : decode cX0_append 67 = .ok (.iload 6, 2) := by decide +kernel
theorem dX0_append_69 : decode cX0_append 69 = .ok (.iload 4, 2) := by decide +kernel
theorem dX0_append_71 : decode cX0_append 71 = .ok (.iastore, 1) := by decide +kernel
theorem dX0_append_72 : decode cX0_append 72 = .ok (.aload_n 0, 1) := by decide +kernel
theorem dX0_append_73 : decode cX0_append 73 = .ok (.getfield 24, 3) := by decide +kernel
theorem dX0_append_76 : decode cX0_append 76 = .ok (.iload 6, 2) := by decide +kernel
theorem dX0_append_78 : decode cX0_append 78 = .ok (.iload 5, 2) := by decide +kernel
theorem dX0_append_80 : decode cX0_append 80 = .ok (.iastore, 1) := by decide +kernel
theorem dX0_append_81 : decode cX0_append 81 = .ok (.aload_n 0, 1) := by decide +kernel
theorem dX0_append_82 : decode cX0_append 82 = .ok (.getfield 9, 3) := by decide +kernel
theorem dX0_append_85 : decode cX0_append 85 = .ok (.iload_n 1, 1) := by decide +kernel
theorem dX0_append_86 : decode cX0_append 86 = .ok (.dup2, 1) := by decide +kernel
theorem dX0_append_87 : decode cX0_append 87 = .ok (.iaload, 1) := by decide +kernel
theorem dX0_append_88 : decode cX0_append 88 = .ok (.iconst 1, 1) := by decide +kernel
theorem dX0_append_89 : decode cX0_append 89 = .ok (.iadd, 1) := by decide +kernel
theorem dX0_append_90 : decode cX0_append 90 = .ok (.iastore, 1) := by decide +kernel
theorem dX0_append_91 : decode cX0_append 91 = .ok (.aload_n 0, 1) := by decide +kernel
theorem dX0_append_92 : decode cX0_append 92 = .ok (.dup, 1) := by decide +kernel
theorem dX0_append_93 : decode cX0_append 93 = .ok (.getfield 27, 3) := by decide +kernel
theorem dX0_append_96 : decode cX0_append 96 = .ok (.iconst 1, 1) := by decide +kernel
theorem dX0_append_97 : decode cX0_append 97 = .ok (.iadd, 1) := by decide +kernel
theorem dX0_append_98 : decode cX0_append 98 = .ok (.putfield 27, 3) := by decide +kernel
theorem dX0_append_101 : decode cX0_append 101 = .ok (.aload_n 0, 1) := by decide +kernel
theorem dX0_append_102 : decode cX0_append 102 = .ok (.getfield 9, 3) := by decide +kernel
theorem dX0_append_105 : decode cX0_append 105 = .ok (.iload_n 1, 1) := by decide +kernel
theorem dX0_append_106 : decode cX0_append 106 = .ok (.iaload, 1) := by decide +kernel
theorem dX0_append_107 : decode cX0_append 107 = .ok (.ireturn, 1) := by decide +kernel
set_option maxRecDepth 20000 in
theorem ggX0_empty_X4_isBlock : GoodIn wsX0_empty wsX4_isBlock := goodIn_r _ [5, 6, 7, 4, 8] (by decide +kernel) (by decide +kernel)
set_option maxRecDepth 20000 in
theorem gX0_empty_X4_isBlock_n31 : GoodIn wsX0_empty (wsX4_isBlock) := ggX0_empty_X4_isBlock
theorem dX0_empty_0 : decode cX0_empty 0 = .ok (.iload_n 1, 1) := by decide +kernel
theorem dX0_empty_1 : decode cX0_empty 1 = .ok (.invokestatic 31, 3) := by decide +kernel
theorem dX0_empty_4 : decode cX0_empty 4 = .ok (.ifCond .ne 6, 3) := by decide +kernel
theorem dX0_empty_7 : decode cX0_empty 7 = .ok (.bipush (-2), 2) := by decide +kernel
theorem dX0_empty_9 : decode cX0_empty 9 = .ok (.ireturn, 1) := by decide +kernel
theorem dX0_empty_10 : decode cX0_empty 10 = .ok (.aload_n 0, 1) := by decide +kernel
theorem dX0_empty_11 : decode cX0_empty 11 = .ok (.getfield 9, 3) := by decide +kernel
theorem dX0_empty_14 : decode cX0_empty 14 = .ok (.iload_n 1, 1) := by decide +kernel
theorem dX0_empty_15 : decode cX0_empty 15 = .ok (.iaload, 1) := by decide +kernel
theorem dX0_empty_16 : decode cX0_empty 16 = .ok (.istore_n 2, 1) := by decide +kernel
theorem dX0_empty_17 : decode cX0_empty 17 = .ok (.aload_n 0, 1) := by decide +kernel
theorem dX0_empty_18 : decode cX0_empty 18 = .ok (.getfield 9, 3) := by decide +kernel
theorem dX0_empty_21 : decode cX0_empty 21 = .ok (.iload_n 1, 1) := by decide +kernel
theorem dX0_empty_22 : decode cX0_empty 22 = .ok (.iconst 0, 1) := by decide +kernel
theorem dX0_empty_23 : decode cX0_empty 23 = .ok (.iastore, 1) := by decide +kernel
theorem dX0_empty_24 : decode cX0_empty 24 = .ok (.aload_n 0, 1) := by decide +kernel
theorem dX0_empty_25 : decode cX0_empty 25 = .ok (.dup, 1) := by decide +kernel
theorem dX0_empty_26 : decode cX0_empty 26 = .ok (.getfield 27, 3) := by decide +kernel
theorem dX0_empty_29 : decode cX0_empty 29 = .ok (.iload_n 2, 1) := by decide +kernel
theorem dX0_empty_30 : decode cX0_empty 30 = .ok (.isub, 1) := by decide +kernel
theorem dX0_empty_31 : decode cX0_empty 31 = .ok (.putfield 27, 3) := by decide +kernel
theorem dX0_empty_34 : decode cX0_empty 34 = .ok (.iload_n 2, 1) := by decide +kernel
theorem dX0_empty_35 : decode cX0_empty 35 = .ok (.ireturn, 1) := by decide +kernel
theorem dX1_init_0 : decode cX1_init 0 = .ok (.aload_n 0, 1) := by decide +kernel
theorem dX1_init_1 : decode cX1_init 1 = .ok (.invokespecial 3, 3) := by decide +kernel
theorem dX1_init_4 : decode cX1_init 4 = .ok (.aload_n 0, 1) := by decide +kernel
theorem dX1_init_5 : decode cX1_init 5 = .ok (.aload_n 1, 1) := by decide +kernel
theorem dX1_init_6 : decode cX1_init 6 = .ok (.putfield 9, 3) := by decide +kernel
theorem dX1_init_9 : decode cX1_init 9 = .ok (.aload_n 0, 1) := by decide +kernel
theorem dX1_init_10 : decode cX1_init 10 = .ok (.aload_n 2, 1) := by decide +kernel
theorem dX1_init_11 : decode cX1_init 11 = .ok (.putfield 15, 3) := by decide +kernel
theorem dX1_init_14 : decode cX1_init 14 = .ok (.aload_n 0, 1) := by decide +kernel
theorem dX1_init_15 : decode cX1_init 15 = .ok (.aload_n 3, 1) := by decide +kernel
theorem dX1_init_16 : decode cX1_init 16 = .ok (.putfield 19, 3) := by decide +kernel
theorem dX1_init_19 : decode cX1_init 19 = .ok (.aload_n 0, 1) := by decide +kernel
theorem dX1_init_20 : decode cX1_init 20 = .ok (.iconst 0, 1) := by decide +kernel
theorem dX1_init_21 : decode cX1_init 21 = .ok (.putfield 23, 3) := by decide +kernel
theorem dX1_init_24 : decode cX1_init 24 = .ok (.return_, 1) := by decide +kernel
set_option maxRecDepth 20000 in
theorem ggX1_doBlock_X4_isBlock : GoodIn wsX1_doBlock wsX4_isBlock := goodIn_r _ [8, 9, 10, 7, 11] (by decide +kernel) (by decide +kernel)
set_option maxRecDepth 20000 in
theorem gX1_doBlock_X4_isBlock_n27 : GoodIn wsX1_doBlock (wsX4_isBlock) := ggX1_doBlock_X4_isBlock
set_option maxRecDepth 20000 in
theorem ggX1_doBlock_X1_doStep : GoodIn wsX1_doBlock wsX1_doStep := goodIn_r _ [72, 35, 1, 22, 73, 46, 74, 75, 55, 56, 57, 58, 59, 60, 76, 77, 78, 15, 79, 80, 81, 82, 83, 84, 85, 86, 87, 88, 89, 90, 91, 92, 93, 94, 24, 25, 26, 27, 28, 29, 7, 30, 9, 10, 11, 95, 96, 97, 39, 40, 41, 42, 43, 44, 98, 99, 100, 101, 102, 103, 104, 105, 106, 107, 108, 109, 110, 111, 112, 113, 114, 115, 116, 31, 32, 33, 34, 36, 37, 38, 45, 47, 48, 49, 50, 51, 52, 53, 4, 54, 117, 118, 119, 63, 64, 65, 66, 67, 68, 69, 70, 0, 2, 3, 5, 6, 8, 12, 13, 14, 16, 17, 18, 19, 20, 21, 23, 61, 62, 71, 120, 121, 122, 123, 124, 125, 126, 127, 128, 129, 130, 131, 132, 133, 134, 135, 136, 137, 138, 139, 140, 141] (by decide +kernel) (by decide +kernel)
set_option maxRecDepth 20000 in
theorem gX1_doBlock_X1_doStep : GoodIn wsX1_doBlock (wsV RX1 43 RX1 yX1_doStep wsX1_doStep) := goodIn_app (goodIn_of _ (by decide +kernel)) ggX1_doBlock_X1_doStep
theorem dX1_doBlock_0 : decode cX1_doBlock 0 = .ok (.iload_n 1, 1) := by decide +kernel
theorem dX1_doBlock_1 : decode cX1_doBlock 1 = .ok (.invokestatic 27, 3) := by decide +kernel
theorem dX1_doBlock_4 : decode cX1_doBlock 4 = .ok (.ifCond .eq 8, 3) := by decide +kernel
theorem dX1_doBlock_7 : decode cX1_doBlock 7 = .ok (.iload_n 1, 1) := by decide +kernel
theorem dX1_doBlock_8 : decode cX1_doBlock 8 = .ok (.iload_n 2, 1) := by decide +kernel
theorem dX1_doBlock_9 : decode cX1_doBlock 9 = .ok (.if_icmp .gt 5, 3) := by decide +kernel
theorem dX1_doBlock_12 : decode cX1_doBlock 12 = .ok (.iconst 0, 1) := by decide +kernel
theorem dX1_doBlock_13 : decode cX1_doBlock 13 = .ok (.ireturn, 1) := by decide +kernel
theorem dX1_doBlock_14 : decode cX1_doBlock 14 = .ok (.aload_n 0, 1) := by decide +kernel
theorem dX1_doBlock_15 : decode cX1_doBlock 15 = .ok (.getfield 15, 3) := by decide +kernel
theorem dX1_doBlock_18 : decode cX1_doBlock 18 = .ok (.getfield 31, 3) := by decide +kernel
theorem dX1_doBlock_21 : decode cX1_doBlock 21 = .ok (.iload_n 1, 1) := by decide +kernel
theorem dX1_doBlock_22 : decode cX1_doBlock 22 = .ok (.iaload, 1) := by decide +kernel
theorem dX1_doBlock_23 : decode cX1_doBlock 23 = .ok (.bipush 12, 2) := by decide +kernel
theorem dX1_doBlock_25 : decode cX1_doBlock 25 = .ok (.invokestatic 37, 3) := by decide +kernel
theorem dX1_doBlock_28 : decode cX1_doBlock 28 = .ok (.istore 4, 2) := by decide +kernel
theorem dX1_doBlock_30 : decode cX1_doBlock 30 = .ok (.iconst 0, 1) := by decide +kernel
theorem dX1_doBlock_31 : decode cX1_doBlock 31 = .ok (.istore 5, 2) := by decide +kernel
theorem dX1_doBlock_33 : decode cX1_doBlock 33 = .ok (.iconst 0, 1) := by decide +kernel
theorem dX1_doBlock_34 : decode cX1_doBlock 34 = .ok (.istore 6, 2) := by decide +kernel
theorem dX1_doBlock_36 : decode cX1_doBlock 36 = .ok (.iload 6, 2) := by decide +kernel
theorem dX1_doBlock_38 : decode cX1_doBlock 38 = .ok (.iload 4, 2) := by decide +kernel
theorem dX1_doBlock_40 : decode cX1_doBlock 40 = .ok (.if_icmp .ge 29, 3) := by decide +kernel
theorem dX1_doBlock_43 : decode cX1_doBlock 43 = .ok (.iload 5, 2) := by decide +kernel
theorem dX1_doBlock_45 : decode cX1_doBlock 45 = .ok (.ifCond .ne 24, 3) := by decide +kernel
theorem dX1_doBlock_48 : decode cX1_doBlock 48 = .ok (.aload_n 0, 1) := by decide +kernel
theorem dX1_doBlock_49 : decode cX1_doBlock 49 = .ok (.iload_n 1, 1) := by decide +kernel
theorem dX1_doBlock_50 : decode cX1_doBlock 50 = .ok (.iload_n 1, 1) := by decide +kernel
theorem dX1_doBlock_51 : decode cX1_doBlock 51 = .ok (.bipush 12, 2) := by decide +kernel
theorem dX1_doBlock_53 : decode cX1_doBlock 53 = .ok (.imul, 1) := by decide +kernel
theorem dX1_doBlock_54 : decode cX1_doBlock 54 = .ok (.iload 6, 2) := by decide +kernel
theorem dX1_doBlock_56 : decode cX1_doBlock 56 = .ok (.iadd, 1) := by decide +kernel
theorem dX1_doBlock_57 : decode cX1_doBlock 57 = .ok (.iload_n 3, 1) := by decide +kernel
theorem dX1_doBlock_58 : decode cX1_doBlock 58 = .ok (.invokevirtual 43, 3) := by decide +kernel
theorem dX1_doBlock_61 : decode cX1_doBlock 61 = .ok (.istore 5, 2) := by decide +kernel
theorem dX1_doBlock_63 : decode cX1_doBlock 63 = .ok (.iinc 6 1, 3) := by decide +kernel
theorem dX1_doBlock_66 : decode cX1_doBlock 66 = .ok (.goto (-30), 3) := by decide +kernel
theorem dX1_doBlock_69 : decode cX1_doBlock 69 = .ok (.iload 5, 2) := by decide +kernel
theorem dX1_doBlock_71 : decode cX1_doBlock 71 = .ok (.ireturn, 1) := by decide +kernel
set_option maxRecDepth 20000 in
theorem ggX1_doStep_X3_enterMark : GoodIn wsX1_doStep wsX3_enterMark := goodIn_r _ [7, 8, 9, 10, 5, 11, 12, 13, 135, 136, 137, 138, 139, 140, 141] (by decide +kernel) (by decide +kernel)
set_option maxRecDepth 20000 in
theorem gX1_doStep_X3_enterMark_n64 : GoodIn wsX1_doStep (wsX3_enterMark) := ggX1_doStep_X3_enterMark
set_option maxRecDepth 20000 in
theorem ggX1_doStep_X1_doHold : GoodIn wsX1_doStep wsX1_doHold := goodIn_r _ [115, 3, 116, 34, 35, 36, 37, 38, 39, 40, 41, 42, 43, 44, 73, 74, 75, 17, 76, 1, 77, 78, 79, 48, 49, 50, 51, 52, 53, 80, 5, 81, 82, 83, 84, 85, 86, 87, 88, 89, 8, 9, 10, 11, 12, 13, 111, 112, 113, 117, 118, 93, 94, 95, 96, 97, 98, 99, 100, 101, 2, 102, 103, 104, 105, 106, 107, 108, 109, 110, 114, 119, 0, 4, 6, 7, 14, 15, 16, 18, 19, 20, 21, 22, 23, 24, 25, 26, 27, 28, 29, 30, 31, 32, 33, 45, 46, 47, 54, 55, 56, 57, 58, 59, 60, 61, 62, 63, 64, 65, 66, 67, 68, 69, 70, 71, 72, 90, 91, 92, 120, 121, 122, 123, 124, 125, 126, 127, 128, 129, 130, 131, 132, 133, 134, 135, 136, 137, 138, 139, 140, 141] (by decide +kernel) (by decide +kernel)
set_option maxRecDepth 20000 in
theorem gX1_doStep_X1_doHold : GoodIn wsX1_doStep (wsV RX1 68 RX1 yX1_doHold wsX1_doHold) := goodIn_app (goodIn_of _ (by decide +kernel)) ggX1_doStep_X1_doHold
set_option maxRecDepth 20000 in
theorem ggX1_doStep_X1_doLoop : GoodIn wsX1_doStep wsX1_doLoop := goodIn_r _ [119, 102, 103, 88, 104, 111, 112, 113, 17, 101, 2, 105, 40, 106, 42, 43, 44, 107, 108, 109, 110, 114, 115, 3, 116, 34, 35, 36, 37, 38, 39, 41, 73, 74, 75, 76, 1, 77, 78, 79, 48, 49, 50, 51, 52, 53, 80, 5, 81, 82, 83, 84, 85, 86, 87, 89, 8, 9, 10, 11, 12, 13, 117, 118, 93, 94, 95, 96, 97, 98, 99, 100, 0, 4, 6, 7, 14, 15, 16, 18, 19, 20, 21, 22, 23, 24, 25, 26, 27, 28, 29, 30, 31, 32, 33, 45, 46, 47, 54, 55, 56, 57, 58, 59, 60, 61, 62, 63, 64, 65, 66, 67, 68, 69, 70, 71, 72, 90, 91, 92, 120, 121, 122, 123, 124, 125, 126, 127, 128, 129, 130, 131, 132, 133, 134, 135, 136, 137, 138, 139, 140, 141] (by decide +kernel) (by decide +kernel)
set_option maxRecDepth 20000 in
theorem gX1_doStep_X1_doLoop : GoodIn wsX1_doStep (wsV RX1 72 RX1 yX1_doLoop wsX1_doLoop) := goodIn_app (goodIn_of _ (by decide +kernel)) ggX1_doStep_X1_doLoop
set_option maxRecDepth 20000 in
theorem ggX1_doStep_X1_doTry : GoodIn wsX1_doStep wsX1_doTry := goodIn_r _ [120, 111, 112, 113, 17, 117, 40, 118, 101, 2, 102, 103, 88, 104, 105, 106, 42, 43, 44, 107, 108, 109, 110, 114, 115, 3, 116, 34, 35, 36, 37, 38, 39, 41, 73, 74, 75, 76, 1, 77, 78, 79, 48, 49, 50, 51, 52, 53, 80, 5, 81, 82, 83, 84, 85, 86, 87, 89, 8, 9, 10, 11, 12, 13, 93, 94, 95, 96, 97, 98, 99, 100, 119, 0, 4, 6, 7, 14, 15, 16, 18, 19, 20, 21, 22, 23, 24, 25, 26, 27, 28, 29, 30, 31, 32, 33, 45, 46, 47, 54, 55, 56, 57, 58, 59, 60, 61, 62, 63, 64, 65, 66, 67, 68, 69, 70, 71, 72, 90, 91, 92, 121, 122, 123, 124, 125, 126, 127, 128, 129, 130, 131, 132, 133, 134, 135, 136, 137, 138, 139, 140, 141] (by decide +kernel) (by decide +kernel)
set_option maxRecDepth 20000 in
theorem gX1_doStep_X1_doTry : GoodIn wsX1_doStep (wsV RX1 76 RX1 yX1_doTry wsX1_doTry) := goodIn_app (goodIn_of _ (by decide +kernel)) ggX1_doStep_X1_doTry
set_option maxRecDepth 20000 in
theorem ggX1_doStep_X1_doBoth : GoodIn wsX1_doStep wsX1_doBoth := goodIn_r _ [110, 111, 112, 113, 17, 101, 2, 102, 103, 88, 104, 105, 40, 106, 42, 43, 44, 107, 108, 109, 114, 115, 3, 116, 34, 35, 36, 37, 38, 39, 41, 73, 74, 75, 76, 1, 77, 78, 79, 48, 49, 50, 51, 52, 53, 80, 5, 81, 82, 83, 84, 85, 86, 87, 89, 8, 9, 10, 11, 12, 13, 117, 118, 93, 94, 95, 96, 97, 98, 99, 100, 119, 0, 4, 6, 7, 14, 15, 16, 18, 19, 20, 21, 22, 23, 24, 25, 26, 27, 28, 29, 30, 31, 32, 33, 45, 46, 47, 54, 55, 56, 57, 58, 59, 60, 61, 62, 63, 64, 65, 66, 67, 68, 69, 70, 71, 72, 90, 91, 92, 120, 121, 122, 123, 124, 125, 126, 127, 128, 129, 130, 131, 132, 133, 134, 135, 136, 137, 138, 139, 140, 141] (by decide +kernel) (by decide +kernel)
set_option maxRecDepth 20000 in
theorem gX1_doStep_X1_doBoth : GoodIn wsX1_doStep (wsV RX1 80 RX1 yX1_doBoth wsX1_doBoth) := goodIn_app (goodIn_of _ (by decide +kernel)) ggX1_doStep_X1_doBoth
set_option maxRecDepth 20000 in
theorem ggX1_doStep_X1_doCall : GoodIn wsX1_doStep wsX1_doCall := goodIn_r _ [114, 111, 112, 113, 17, 101, 2, 102, 103, 88, 104, 105, 40, 106, 42, 43, 44, 107, 108, 109, 110, 115, 3, 116, 34, 35, 36, 37, 38, 39, 41, 73, 74, 75, 76, 1, 77, 78, 79, 48, 49, 50, 51, 52, 53, 80, 5, 81, 82, 83, 84, 85, 86, 87, 89, 8, 9, 10, 11, 12, 13, 117, 118, 93, 94, 95, 96, 97, 98, 99, 100, 119, 0, 4, 6, 7, 14, 15, 16, 18, 19, 20, 21, 22, 23, 24, 25, 26, 27, 28, 29, 30, 31, 32, 33, 45, 46, 47, 54, 55, 56, 57, 58, 59, 60, 61, 62, 63, 64, 65, 66, 67, 68, 69, 70, 71, 72, 90, 91, 92, 120, 121, 122, 123, 124, 125, 126, 127, 128, 129, 130, 131, 132, 133, 134, 135, 136, 137, 138, 139, 140, 141] (by decide +kernel) (by decide +kernel)
set_option maxRecDepth 20000 in
theorem gX1_doStep_X1_doCall : GoodIn wsX1_doStep (wsV RX1 83 RX1 yX1_doCall wsX1_doCall) := goodIn_app (goodIn_of _ (by decide +kernel)) ggX1_doStep_X1_doCall
set_option maxRecDepth 20000 in
theorem ggX1_doStep_X1_doAdd : GoodIn wsX1_doStep wsX1_doAdd := goodIn_r _ [33, 3, 34, 35, 36, 37, 38, 39, 40, 41, 42, 43, 44, 45, 46, 47, 48, 49, 50, 51, 52, 53, 54, 55, 56, 57, 121, 122, 123, 124, 131, 132, 133, 134] (by decide +kernel) (by decide +kernel)
set_option maxRecDepth 20000 in
theorem gX1_doStep_X1_doAdd : GoodIn wsX1_doStep (wsV RX1 86 RX1 yX1_doAdd wsX1_doAdd) := goodIn_app (goodIn_of _ (by decide +kernel)) ggX1_doStep_X1_doAdd
set_option maxRecDepth 20000 in
theorem ggX1_doStep_X2_thingIn : GoodIn wsX1_doStep wsX2_thingIn := goodIn_r _ [37, 38, 39, 40, 41, 42, 43, 44, 131, 132, 133, 134] (by decide +kernel) (by decide +kernel)
set_option maxRecDepth 20000 in
theorem gX1_doStep_X2_thingIn_n89 : GoodIn wsX1_doStep (wsX2_thingIn) := ggX1_doStep_X2_thingIn
set_option maxRecDepth 20000 in
theorem ggX1_doStep_X2_put : GoodIn wsX1_doStep wsX2_put := goodIn_r _ [60, 38, 39, 40, 41, 42, 43, 44, 131, 132, 133, 134] (by decide +kernel) (by decide +kernel)
set_option maxRecDepth 20000 in
theorem gX1_doStep_X2_put_n95 : GoodIn wsX1_doStep (wsX2_put) := ggX1_doStep_X2_put
set_option maxRecDepth 20000 in
theorem ggX1_doStep_X1_doNew : GoodIn wsX1_doStep wsX1_doNew := goodIn_r _ [64, 3, 65, 35, 66, 67, 53, 68, 58, 59, 60, 38, 39, 40, 41, 42, 43, 44, 121, 122, 123, 124, 131, 132, 133, 134] (by decide +kernel) (by decide +kernel)
set_option maxRecDepth 20000 in
theorem gX1_doStep_X1_doNew : GoodIn wsX1_doStep (wsV RX1 99 RX1 yX1_doNew wsX1_doNew) := goodIn_app (goodIn_of _ (by decide +kernel)) ggX1_doStep_X1_doNew
set_option maxRecDepth 20000 in
theorem ggX1_doStep_X1_doSweep : GoodIn wsX1_doStep wsX1_doSweep := goodIn_r _ [72, 3, 1, 34, 35, 36, 37, 38, 39, 40, 41, 42, 43, 44, 73, 74, 75, 17, 76, 77, 78, 79, 48, 49, 50, 51, 52, 53, 80, 5, 81, 82, 83, 84, 85, 86, 87, 88, 89, 8, 9, 10, 11, 12, 13, 90, 91, 92, 57, 93, 94, 95, 96, 97, 98, 99, 100, 4, 6, 7, 121, 122, 123, 124, 131, 132, 133, 134, 135, 136, 137, 138, 139, 140, 141] (by decide +kernel) (by decide +kernel)
set_option maxRecDepth 20000 in
theorem gX1_doStep_X1_doSweep : GoodIn wsX1_doStep (wsV RX1 102 RX1 yX1_doSweep wsX1_doSweep) := goodIn_app (goodIn_of _ (by decide +kernel)) ggX1_doStep_X1_doSweep
theorem dX1_doStep_0 : decode cX1_doStep 0 = .ok (.aload_n 0, 1) := by decide +kernel
theorem dX1_doStep_1 : decode cX1_doStep 1 = .ok (.getfield 19, 3) := by decide +kernel
theorem dX1_doStep_4 : decode cX1_doStep 4 = .ok (.getfield 47, 3) := by decide +kernel
theorem dX1_doStep_7 : decode cX1_doStep 7 = .ok (.sipush 300, 3) := by decide +kernel
theorem dX1_doStep_10 : decode cX1_doStep 10 = .ok (.if_icmp .lt 5, 3) := by decide +kernel
theorem dX1_doStep_13 : decode cX1_doStep 13 = .ok (.iconst 5, 1) := by decide +kernel
theorem dX1_doStep_14 : decode cX1_doStep 14 = .ok (.ireturn, 1) := by decide +kernel
theorem dX1_doStep_15 : decode cX1_doStep 15 = .ok (.aload_n 0, 1) := by decide +kernel
theorem dX1_doStep_16 : decode cX1_doStep 16 = .ok (.getfield 19, 3) := by decide +kernel
theorem dX1_doStep_19 : decode cX1_doStep 19 = .ok (.dup, 1) := by decide +kernel
theorem dX1_doStep_20 : decode cX1_doStep 20 = .ok (.getfield 47, 3) := by decide +kernel
theorem dX1_doStep_23 : decode cX1_doStep 23 = .ok (.iconst 1, 1) := by decide +kernel
theorem dX1_doStep_24 : decode cX1_doStep 24 = .ok (.iadd, 1) := by decide +kernel
theorem dX1_doStep_25 : decode cX1_doStep 25 = .ok (.putfield 47, 3) := by decide +kernel
theorem dX1_doStep_28 : decode cX1_doStep 28 = .ok (.aload_n 0, 1) := by decide +kernel
theorem dX1_doStep_29 : decode cX1_doStep 29 = .ok (.getfield 15, 3) := by decide +kernel
theorem dX1_doStep_32 : decode cX1_doStep 32 = .ok (.getfield 52, 3) := by decide +kernel
theorem dX1_doStep_35 : decode cX1_doStep 35 = .ok (.iload_n 2, 1) := by decide +kernel
theorem dX1_doStep_36 : decode cX1_doStep 36 = .ok (.iaload, 1) := by decide +kernel
theorem dX1_doStep_37 : decode cX1_doStep 37 = .ok (.istore 4, 2) := by decide +kernel
theorem dX1_doStep_39 : decode cX1_doStep 39 = .ok (.aload_n 0, 1) := by decide +kernel
theorem dX1_doStep_40 : decode cX1_doStep 40 = .ok (.getfield 15, 3) := by decide +kernel
theorem dX1_doStep_43 : decode cX1_doStep 43 = .ok (.getfield 55, 3) := by decide +kernel
theorem dX1_doStep_46 : decode cX1_doStep 46 = .ok (.iload_n 2, 1) := by decide +kernel
theorem dX1_doStep_47 : decode cX1_doStep 47 = .ok (.iaload, 1) := by decide +kernel
theorem dX1_doStep_48 : decode cX1_doStep 48 = .ok (.istore 5, 2) := by decide +kernel
theorem dX1_doStep_50 : decode cX1_doStep 50 = .ok (.aload_n 0, 1) := by decide +kernel
theorem dX1_doStep_51 : decode cX1_doStep 51 = .ok (.getfield 15, 3) := by decide +kernel
theorem dX1_doStep_54 : decode cX1_doStep 54 = .ok (.getfield 58, 3) := by decide +kernel
theorem dX1_doStep_57 : decode cX1_doStep 57 = .ok (.iload_n 2, 1) := by decide +kernel
theorem dX1_doStep_58 : decode cX1_doStep 58 = .ok (.iaload, 1) := by decide +kernel
theorem dX1_doStep_59 : decode cX1_doStep 59 = .ok (.istore 6, 2) := by decide +kernel
theorem dX1_doStep_61 : decode cX1_doStep 61 = .ok (.aload_n 0, 1) := by decide +kernel
theorem dX1_doStep_62 : decode cX1_doStep 62 = .ok (.getfield 15, 3) := by decide +kernel
theorem dX1_doStep_65 : decode cX1_doStep 65 = .ok (.getfield 61, 3) := by decide +kernel
theorem dX1_doStep_68 : decode cX1_doStep 68 = .ok (.iload_n 2, 1) := by decide +kernel
theorem dX1_doStep_69 : decode cX1_doStep 69 = .ok (.iaload, 1) := by decide +kernel
theorem dX1_doStep_70 : decode cX1_doStep 70 = .ok (.tableswitch 222 0 14 #[74, 85, 96, 106, 116, 126, 128, 134, 147, 158, 166, 175, 195, 202, 214], 74) := by decide +kernel
theorem dX1_doStep_144 : decode cX1_doStep 144 = .ok (.aload_n 0, 1) := by decide +kernel
theorem dX1_doStep_145 : decode cX1_doStep 145 = .ok (.getfield 19, 3) := by decide +kernel
theorem dX1_doStep_148 : decode cX1_doStep 148 = .ok (.iload 4, 2) := by decide +kernel
theorem dX1_doStep_150 : decode cX1_doStep 150 = .ok (.invokevirtual 64, 3) := by decide +kernel
theorem dX1_doStep_153 : decode cX1_doStep 153 = .ok (.iconst 0, 1) := by decide +kernel
theorem dX1_doStep_154 : decode cX1_doStep 154 = .ok (.ireturn, 1) := by decide +kernel
theorem dX1_doStep_155 : decode cX1_doStep 155 = .ok (.aload_n 0, 1) := by decide +kernel
theorem dX1_doStep_156 : decode cX1_doStep 156 = .ok (.iload 4, 2) := by decide +kernel
theorem dX1_doStep_158 : decode cX1_doStep 158 = .ok (.iload 5, 2) := by decide +kernel
theorem dX1_doStep_160 : decode cX1_doStep 160 = .ok (.iload_n 1, 1) := by decide +kernel
theorem dX1_doStep_161 : decode cX1_doStep 161 = .ok (.iload_n 3, 1) := by decide +kernel
theorem dX1_doStep_162 : decode cX1_doStep 162 = .ok (.invokevirtual 68, 3) := by decide +kernel
theorem dX1_doStep_165 : decode cX1_doStep 165 = .ok (.ireturn, 1) := by decide +kernel
theorem dX1_doStep_166 : decode cX1_doStep 166 = .ok (.aload_n 0, 1) := by decide +kernel
theorem dX1_doStep_167 : decode cX1_doStep 167 = .ok (.iload 4, 2) := by decide +kernel
theorem dX1_doStep_169 : decode cX1_doStep 169 = .ok (.iload 5, 2) := by decide +kernel
theorem dX1_doStep_171 : decode cX1_doStep 171 = .ok (.iload_n 1, 1) := by decide +kernel
theorem dX1_doStep_172 : decode cX1_doStep 172 = .ok (.invokevirtual 72, 3) := by decide +kernel
theorem dX1_doStep_175 : decode cX1_doStep 175 = .ok (.ireturn, 1) := by decide +kernel
theorem dX1_doStep_176 : decode cX1_doStep 176 = .ok (.iload_n 3, 1) := by decide +kernel
theorem dX1_doStep_177 : decode cX1_doStep 177 = .ok (.ifCond .eq 7, 3) := by decide +kernel
theorem dX1_doStep_180 : decode cX1_doStep 180 = .ok (.iconst 1, 1) := by decide +kernel
theorem dX1_doStep_181 : decode cX1_doStep 181 = .ok (.goto 4, 3) := by decide +kernel
theorem dX1_doStep_184 : decode cX1_doStep 184 = .ok (.iconst 3, 1) := by decide +kernel
theorem dX1_doStep_185 : decode cX1_doStep 185 = .ok (.ireturn, 1) := by decide +kernel
theorem dX1_doStep_186 : decode cX1_doStep 186 = .ok (.iload_n 3, 1) := by decide +kernel
theorem dX1_doStep_187 : decode cX1_doStep 187 = .ok (.ifCond .eq 7, 3) := by decide +kernel
theorem dX1_doStep_190 : decode cX1_doStep 190 = .ok (.iconst 2, 1) := by decide +kernel
theorem dX1_doStep_191 : decode cX1_doStep 191 = .ok (.goto 4, 3) := by decide +kernel
theorem dX1_doStep_194 : decode cX1_doStep 194 = .ok (.iconst 3, 1) := by decide +kernel
theorem dX1_doStep_195 : decode cX1_doStep 195 = .ok (.ireturn, 1) := by decide +kernel
theorem dX1_doStep_196 : decode cX1_doStep 196 = .ok (.iconst 3, 1) := by decide +kernel
theorem dX1_doStep_197 : decode cX1_doStep 197 = .ok (.ireturn, 1) := by decide +kernel
theorem dX1_doStep_198 : decode cX1_doStep 198 = .ok (.bipush 100, 2) := by decide +kernel
theorem dX1_doStep_200 : decode cX1_doStep 200 = .ok (.iload 4, 2) := by decide +kernel
theorem dX1_doStep_202 : decode cX1_doStep 202 = .ok (.iadd, 1) := by decide +kernel
theorem dX1_doStep_203 : decode cX1_doStep 203 = .ok (.ireturn, 1) := by decide +kernel
theorem dX1_doStep_204 : decode cX1_doStep 204 = .ok (.aload_n 0, 1) := by decide +kernel
theorem dX1_doStep_205 : decode cX1_doStep 205 = .ok (.iload 4, 2) := by decide +kernel
theorem dX1_doStep_207 : decode cX1_doStep 207 = .ok (.iload 5, 2) := by decide +kernel
theorem dX1_doStep_209 : decode cX1_doStep 209 = .ok (.iload 6, 2) := by decide +kernel
theorem dX1_doStep_211 : decode cX1_doStep 211 = .ok (.iload_n 1, 1) := by decide +kernel
theorem dX1_doStep_212 : decode cX1_doStep 212 = .ok (.iload_n 3, 1) := by decide +kernel
theorem dX1_doStep_213 : decode cX1_doStep 213 = .ok (.invokevirtual 76, 3) := by decide +kernel
theorem dX1_doStep_216 : decode cX1_doStep 216 = .ok (.ireturn, 1) := by decide +kernel
theorem dX1_doStep_217 : decode cX1_doStep 217 = .ok (.aload_n 0, 1) := by decide +kernel
theorem dX1_doStep_218 : decode cX1_doStep 218 = .ok (.iload 5, 2) := by decide +kernel
theorem dX1_doStep_220 : decode cX1_doStep 220 = .ok (.iload 6, 2) := by decide +kernel
theorem dX1_doStep_222 : decode cX1_doStep 222 = .ok (.iload_n 1, 1) := by decide +kernel
theorem dX1_doStep_223 : decode cX1_doStep 223 = .ok (.iload_n 3, 1) := by decide +kernel
theorem dX1_doStep_224 : decode cX1_doStep 224 = .ok (.invokevirtual 80, 3) := by decide +kernel
theorem dX1_doStep_227 : decode cX1_doStep 227 = .ok (.ireturn, 1) := by decide +kernel
theorem dX1_doStep_228 : decode cX1_doStep 228 = .ok (.aload_n 0, 1) := by decide +kernel
theorem dX1_doStep_229 : decode cX1_doStep 229 = .ok (.iload 5, 2) := by decide +kernel
theorem dX1_doStep_231 : decode cX1_doStep 231 = .ok (.iload_n 1, 1) := by decide +kernel
theorem dX1_doStep_232 : decode cX1_doStep 232 = .ok (.invokevirtual 83, 3) := by decide +kernel
theorem dX1_doStep_235 : decode cX1_doStep 235 = .ok (.ireturn, 1) := by decide +kernel
theorem dX1_doStep_236 : decode cX1_doStep 236 = .ok (.aload_n 0, 1) := by decide +kernel
theorem dX1_doStep_237 : decode cX1_doStep 237 = .ok (.iload 4, 2) := by decide +kernel
theorem dX1_doStep_239 : decode cX1_doStep 239 = .ok (.iload 5, 2) := by decide +kernel
theorem dX1_doStep_241 : decode cX1_doStep 241 = .ok (.invokevirtual 86, 3) := by decide +kernel
theorem dX1_doStep_244 : decode cX1_doStep 244 = .ok (.ireturn, 1) := by decide +kernel
theorem dX1_doStep_245 : decode cX1_doStep 245 = .ok (.aload_n 0, 1) := by decide +kernel
theorem dX1_doStep_246 : decode cX1_doStep 246 = .ok (.getfield 9, 3) := by decide +kernel
theorem dX1_doStep_249 : decode cX1_doStep 249 = .ok (.iload 4, 2) := by decide +kernel
theorem dX1_doStep_251 : decode cX1_doStep 251 = .ok (.aload_n 0, 1) := by decide +kernel
theorem dX1_doStep_252 : decode cX1_doStep 252 = .ok (.getfield 9, 3) := by decide +kernel
theorem dX1_doStep_255 : decode cX1_doStep 255 = .ok (.iload 5, 2) := by decide +kernel
theorem dX1_doStep_257 : decode cX1_doStep 257 = .ok (.invokevirtual 89, 3) := by decide +kernel
theorem dX1_doStep_260 : decode cX1_doStep 260 = .ok (.invokevirtual 95, 3) := by decide +kernel
theorem dX1_doStep_263 : decode cX1_doStep 263 = .ok (.iconst 0, 1) := by decide +kernel
theorem dX1_doStep_264 : decode cX1_doStep 264 = .ok (.ireturn, 1) := by decide +kernel
theorem dX1_doStep_265 : decode cX1_doStep 265 = .ok (.aload_n 0, 1) := by decide +kernel
theorem dX1_doStep_266 : decode cX1_doStep 266 = .ok (.iload 4, 2) := by decide +kernel
theorem dX1_doStep_268 : decode cX1_doStep 268 = .ok (.invokevirtual 99, 3) := by decide +kernel
theorem dX1_doStep_271 : decode cX1_doStep 271 = .ok (.ireturn, 1) := by decide +kernel
theorem dX1_doStep_272 : decode cX1_doStep 272 = .ok (.aload_n 0, 1) := by decide +kernel
theorem dX1_doStep_273 : decode cX1_doStep 273 = .ok (.getfield 9, 3) := by decide +kernel
theorem dX1_doStep_276 : decode cX1_doStep 276 = .ok (.iload 4, 2) := by decide +kernel
theorem dX1_doStep_278 : decode cX1_doStep 278 = .ok (.iconst (-1), 1) := by decide +kernel
theorem dX1_doStep_279 : decode cX1_doStep 279 = .ok (.invokevirtual 95, 3) := by decide +kernel
theorem dX1_doStep_282 : decode cX1_doStep 282 = .ok (.iconst 0, 1) := by decide +kernel
theorem dX1_doStep_283 : decode cX1_doStep 283 = .ok (.ireturn, 1) := by decide +kernel
theorem dX1_doStep_284 : decode cX1_doStep 284 = .ok (.aload_n 0, 1) := by decide +kernel
theorem dX1_doStep_285 : decode cX1_doStep 285 = .ok (.iload 4, 2) := by decide +kernel
theorem dX1_doStep_287 : decode cX1_doStep 287 = .ok (.invokevirtual 102, 3) := by decide +kernel
theorem dX1_doStep_290 : decode cX1_doStep 290 = .ok (.iconst 0, 1) := by decide +kernel
theorem dX1_doStep_291 : decode cX1_doStep 291 = .ok (.ireturn, 1) := by decide +kernel
theorem dX1_doStep_292 : decode cX1_doStep 292 = .ok (.iconst 0, 1) := by decide +kernel
theorem dX1_doStep_293 : decode cX1_doStep 293 = .ok (.ireturn, 1) := by decide +kernel
set_option maxRecDepth 20000 in
theorem ggX1_doHold_X2_thingIn : GoodIn wsX1_doHold wsX2_thingIn := goodIn_r _ [6, 7, 8, 9, 10, 11, 12, 13, 131, 132, 133, 134] (by decide +kernel) (by decide +kernel)
set_option maxRecDepth 20000 in
theorem gX1_doHold_X2_thingIn_n89 : GoodIn wsX1_doHold (wsX2_thingIn) := ggX1_doHold_X2_thingIn
set_option maxRecDepth 20000 in
theorem ggX1_doHold_X1_beginHold : GoodIn wsX1_doHold wsX1_beginHold := goodIn_r _ [18, 1, 19, 20, 4, 21, 22, 23, 24, 25, 26, 27, 28, 29, 30, 31, 32, 33, 34, 35, 36, 37, 38, 39, 40, 41, 42, 43, 44, 45, 121, 122, 123, 124, 131, 132, 133, 134, 135, 136, 137, 138, 139, 140, 141] (by decide +kernel) (by decide +kernel)
set_option maxRecDepth 20000 in
theorem gX1_doHold_X1_beginHold : GoodIn wsX1_doHold (wsV RX1 105 RX1 yX1_beginHold wsX1_beginHold) := goodIn_app (goodIn_of _ (by decide +kernel)) ggX1_doHold_X1_beginHold
set_option maxRecDepth 20000 in
theorem ggX1_doHold_X1_doBlock : GoodIn wsX1_doHold wsX1_doBlock := goodIn_r _ [59, 60, 61, 62, 38, 63, 64, 9, 65, 11, 12, 13, 66, 67, 68, 17, 69, 46, 47, 48, 70, 0, 1, 2, 3, 4, 5, 6, 7, 8, 10, 14, 15, 16, 18, 19, 20, 21, 22, 23, 24, 25, 26, 27, 28, 29, 30, 31, 32, 33, 34, 35, 36, 37, 39, 40, 41, 42, 43, 44, 45, 49, 50, 51, 52, 53, 54, 55, 56, 57, 58, 71, 72, 73, 74, 75, 76, 77, 78, 79, 80, 81, 82, 83, 84, 85, 86, 87, 88, 89, 90, 91, 92, 93, 94, 95, 96, 97, 98, 99, 100, 101, 102, 103, 104, 105, 106, 107, 108, 109, 110, 111, 112, 113, 114, 115, 116, 117, 118, 119, 120, 121, 122, 123, 124, 125, 126, 127, 128, 129, 130, 131, 132, 133, 134, 135, 136, 137, 138, 139, 140, 141] (by decide +kernel) (by decide +kernel)
set_option maxRecDepth 20000 in
theorem gX1_doHold_X1_doBlock : GoodIn wsX1_doHold (wsV RX1 108 RX1 yX1_doBlock wsX1_doBlock) := goodIn_app (goodIn_of _ (by decide +kernel)) ggX1_doHold_X1_doBlock
set_option maxRecDepth 20000 in
theorem ggX1_doHold_X4_isThrown : GoodIn wsX1_doHold wsX4_isThrown := goodIn_r _ [50] (by decide +kernel) (by decide +kernel)
set_option maxRecDepth 20000 in
theorem gX1_doHold_X4_isThrown_n111 : GoodIn wsX1_doHold (wsX4_isThrown) := ggX1_doHold_X4_isThrown
set_option maxRecDepth 20000 in
theorem ggX1_doHold_X1_leaveHold : GoodIn wsX1_doHold wsX1_leaveHold := goodIn_r _ [54, 1, 19, 20, 4, 21, 22, 23, 24, 25, 26, 27, 28, 55, 30, 56, 57, 34, 58, 40, 41, 42, 43, 44, 45, 121, 122, 123, 124, 131, 132, 133, 134, 135, 136, 137, 138, 139, 140, 141] (by decide +kernel) (by decide +kernel)
set_option maxRecDepth 20000 in
theorem gX1_doHold_X1_leaveHold : GoodIn wsX1_doHold (wsV RX1 114 RX1 yX1_leaveHold wsX1_leaveHold) := goodIn_app (goodIn_of _ (by decide +kernel)) ggX1_doHold_X1_leaveHold
theorem dX1_doHold_0 : decode cX1_doHold 0 = .ok (.aload_n 0, 1) := by decide +kernel
theorem dX1_doHold_1 : decode cX1_doHold 1 = .ok (.getfield 9, 3) := by decide +kernel
theorem dX1_doHold_4 : decode cX1_doHold 4 = .ok (.iload_n 1, 1) := by decide +kernel
theorem dX1_doHold_5 : decode cX1_doHold 5 = .ok (.invokevirtual 89, 3) := by decide +kernel
theorem dX1_doHold_8 : decode cX1_doHold 8 = .ok (.istore 5, 2) := by decide +kernel
theorem dX1_doHold_10 : decode cX1_doHold 10 = .ok (.iload 5, 2) := by decide +kernel
theorem dX1_doHold_12 : decode cX1_doHold 12 = .ok (.iconst (-1), 1) := by decide +kernel
theorem dX1_doHold_13 : decode cX1_doHold 13 = .ok (.if_icmp .ne 16, 3) := by decide +kernel
theorem dX1_doHold_16 : decode cX1_doHold 16 = .ok (.aload_n 0, 1) := by decide +kernel
theorem dX1_doHold_17 : decode cX1_doHold 17 = .ok (.dup, 1) := by decide +kernel
theorem dX1_doHold_18 : decode cX1_doHold 18 = .ok (.getfield 23, 3) := by decide +kernel
theorem dX1_doHold_21 : decode cX1_doHold 21 = .ok (.iconst 1, 1) := by decide +kernel
theorem dX1_doHold_22 : decode cX1_doHold 22 = .ok (.iadd, 1) := by decide +kernel
theorem dX1_doHold_23 : decode cX1_doHold 23 = .ok (.putfield 23, 3) := by decide +kernel
theorem dX1_doHold_26 : decode cX1_doHold 26 = .ok (.bipush 112, 2) := by decide +kernel
theorem dX1_doHold_28 : decode cX1_doHold 28 = .ok (.ireturn, 1) := by decide +kernel
theorem dX1_doHold_29 : decode cX1_doHold 29 = .ok (.aload_n 0, 1) := by decide +kernel
theorem dX1_doHold_30 : decode cX1_doHold 30 = .ok (.iload 5, 2) := by decide +kernel
theorem dX1_doHold_32 : decode cX1_doHold 32 = .ok (.invokevirtual 105, 3) := by decide +kernel
theorem dX1_doHold_35 : decode cX1_doHold 35 = .ok (.aload_n 0, 1) := by decide +kernel
theorem dX1_doHold_36 : decode cX1_doHold 36 = .ok (.iload_n 2, 1) := by decide +kernel
theorem dX1_doHold_37 : decode cX1_doHold 37 = .ok (.iload_n 3, 1) := by decide +kernel
theorem dX1_doHold_38 : decode cX1_doHold 38 = .ok (.iload 4, 2) := by decide +kernel
theorem dX1_doHold_40 : decode cX1_doHold 40 = .ok (.invokevirtual 108, 3) := by decide +kernel
theorem dX1_doHold_43 : decode cX1_doHold 43 = .ok (.istore 6, 2) := by decide +kernel
theorem dX1_doHold_45 : decode cX1_doHold 45 = .ok (.aload_n 0, 1) := by decide +kernel
theorem dX1_doHold_46 : decode cX1_doHold 46 = .ok (.iload 5, 2) := by decide +kernel
theorem dX1_doHold_48 : decode cX1_doHold 48 = .ok (.iload 6, 2) := by decide +kernel
theorem dX1_doHold_50 : decode cX1_doHold 50 = .ok (.invokestatic 111, 3) := by decide +kernel
theorem dX1_doHold_53 : decode cX1_doHold 53 = .ok (.ifCond .eq 7, 3) := by decide +kernel
theorem dX1_doHold_56 : decode cX1_doHold 56 = .ok (.iconst 4, 1) := by decide +kernel
theorem dX1_doHold_57 : decode cX1_doHold 57 = .ok (.goto 5, 3) := by decide +kernel
theorem dX1_doHold_60 : decode cX1_doHold 60 = .ok (.iload 6, 2) := by decide +kernel
theorem dX1_doHold_62 : decode cX1_doHold 62 = .ok (.invokevirtual 114, 3) := by decide +kernel
theorem dX1_doHold_65 : decode cX1_doHold 65 = .ok (.iload 6, 2) := by decide +kernel
theorem dX1_doHold_67 : decode cX1_doHold 67 = .ok (.ireturn, 1) := by decide +kernel
set_option maxRecDepth 20000 in
theorem ggX1_beginHold_X2_deepen : GoodIn wsX1_beginHold wsX2_deepen := goodIn_r _ [6, 7, 8, 9, 10, 4, 11, 12, 34, 35, 36, 37] (by decide +kernel) (by decide +kernel)
set_option maxRecDepth 20000 in
theorem gX1_beginHold_X2_deepen_n117 : GoodIn wsX1_beginHold (wsX2_deepen) := ggX1_beginHold_X2_deepen
set_option maxRecDepth 20000 in
theorem ggX1_beginHold_X3_enterBegun : GoodIn wsX1_beginHold wsX3_enterBegun := goodIn_r _ [16, 17, 18, 19, 20, 21, 22, 23, 24, 25, 26, 14, 27, 28, 29, 38, 39, 40, 41, 42, 43, 44] (by decide +kernel) (by decide +kernel)
set_option maxRecDepth 20000 in
theorem gX1_beginHold_X3_enterBegun_n120 : GoodIn wsX1_beginHold (wsX3_enterBegun) := ggX1_beginHold_X3_enterBegun
theorem dX1_beginHold_0 : decode cX1_beginHold 0 = .ok (.aload_n 0, 1) := by decide +kernel
theorem dX1_beginHold_1 : decode cX1_beginHold 1 = .ok (.getfield 9, 3) := by decide +kernel
theorem dX1_beginHold_4 : decode cX1_beginHold 4 = .ok (.iload_n 1, 1) := by decide +kernel
theorem dX1_beginHold_5 : decode cX1_beginHold 5 = .ok (.iconst 1, 1) := by decide +kernel
theorem dX1_beginHold_6 : decode cX1_beginHold 6 = .ok (.invokevirtual 117, 3) := by decide +kernel
theorem dX1_beginHold_9 : decode cX1_beginHold 9 = .ok (.aload_n 0, 1) := by decide +kernel
theorem dX1_beginHold_10 : decode cX1_beginHold 10 = .ok (.getfield 19, 3) := by decide +kernel
theorem dX1_beginHold_13 : decode cX1_beginHold 13 = .ok (.iload_n 1, 1) := by decide +kernel
theorem dX1_beginHold_14 : decode cX1_beginHold 14 = .ok (.invokevirtual 120, 3) := by decide +kernel
theorem dX1_beginHold_17 : decode cX1_beginHold 17 = .ok (.return_, 1) := by decide +kernel
set_option maxRecDepth 20000 in
theorem ggX1_leaveHold_X2_deepen : GoodIn wsX1_leaveHold wsX2_deepen := goodIn_r _ [6, 7, 8, 9, 10, 4, 11, 12, 29, 30, 31, 32] (by decide +kernel) (by decide +kernel)
set_option maxRecDepth 20000 in
theorem gX1_leaveHold_X2_deepen_n117 : GoodIn wsX1_leaveHold (wsX2_deepen) := ggX1_leaveHold_X2_deepen
set_option maxRecDepth 20000 in
theorem ggX1_leaveHold_X3_enterLeft : GoodIn wsX1_leaveHold wsX3_enterLeft := goodIn_r _ [16, 17, 18, 19, 20, 21, 14, 22, 23, 24, 33, 34, 35, 36, 37, 38, 39] (by decide +kernel) (by decide +kernel)
set_option maxRecDepth 20000 in
theorem gX1_leaveHold_X3_enterLeft_n123 : GoodIn wsX1_leaveHold (wsX3_enterLeft) := ggX1_leaveHold_X3_enterLeft
theorem dX1_leaveHold_0 : decode cX1_leaveHold 0 = .ok (.aload_n 0, 1) := by decide +kernel
theorem dX1_leaveHold_1 : decode cX1_leaveHold 1 = .ok (.getfield 9, 3) := by decide +kernel
theorem dX1_leaveHold_4 : decode cX1_leaveHold 4 = .ok (.iload_n 1, 1) := by decide +kernel
theorem dX1_leaveHold_5 : decode cX1_leaveHold 5 = .ok (.iconst (-1), 1) := by decide +kernel
theorem dX1_leaveHold_6 : decode cX1_leaveHold 6 = .ok (.invokevirtual 117, 3) := by decide +kernel
theorem dX1_leaveHold_9 : decode cX1_leaveHold 9 = .ok (.aload_n 0, 1) := by decide +kernel
theorem dX1_leaveHold_10 : decode cX1_leaveHold 10 = .ok (.getfield 19, 3) := by decide +kernel
theorem dX1_leaveHold_13 : decode cX1_leaveHold 13 = .ok (.iload_n 1, 1) := by decide +kernel
theorem dX1_leaveHold_14 : decode cX1_leaveHold 14 = .ok (.iload_n 2, 1) := by decide +kernel
theorem dX1_leaveHold_15 : decode cX1_leaveHold 15 = .ok (.invokevirtual 123, 3) := by decide +kernel
theorem dX1_leaveHold_18 : decode cX1_leaveHold 18 = .ok (.return_, 1) := by decide +kernel
set_option maxRecDepth 20000 in
theorem ggX1_doLoop_X1_doBlock : GoodIn wsX1_doLoop wsX1_doBlock := goodIn_r _ [9, 10, 1, 2, 3, 4, 11, 12, 13, 14, 15, 16, 17, 18, 19, 8, 20, 5, 6, 7, 21, 22, 23, 24, 25, 26, 27, 28, 29, 30, 31, 32, 33, 34, 35, 36, 37, 38, 39, 40, 41, 42, 43, 44, 45, 46, 47, 48, 49, 50, 51, 52, 53, 54, 55, 56, 57, 58, 59, 60, 61, 62, 63, 64, 65, 66, 67, 68, 69, 70, 71, 0, 72, 73, 74, 75, 76, 77, 78, 79, 80, 81, 82, 83, 84, 85, 86, 87, 88, 89, 90, 91, 92, 93, 94, 95, 96, 97, 98, 99, 100, 101, 102, 103, 104, 105, 106, 107, 108, 109, 110, 111, 112, 113, 114, 115, 116, 117, 118, 119, 120, 121, 122, 123, 124, 125, 126, 127, 128, 129, 130, 131, 132, 133, 134, 135, 136, 137, 138, 139, 140, 141] (by decide +kernel) (by decide +kernel)
set_option maxRecDepth 20000 in
theorem gX1_doLoop_X1_doBlock : GoodIn wsX1_doLoop (wsV RX1 108 RX1 yX1_doBlock wsX1_doBlock) := goodIn_app (goodIn_of _ (by decide +kernel)) ggX1_doLoop_X1_doBlock
theorem dX1_doLoop_0 : decode cX1_doLoop 0 = .ok (.iload_n 1, 1) := by decide +kernel
theorem dX1_doLoop_1 : decode cX1_doLoop 1 = .ok (.iconst 5, 1) := by decide +kernel
theorem dX1_doLoop_2 : decode cX1_doLoop 2 = .ok (.invokestatic 37, 3) := by decide +kernel
theorem dX1_doLoop_5 : decode cX1_doLoop 5 = .ok (.istore 4, 2) := by decide +kernel
theorem dX1_doLoop_7 : decode cX1_doLoop 7 = .ok (.iconst 0, 1) := by decide +kernel
theorem dX1_doLoop_8 : decode cX1_doLoop 8 = .ok (.istore 5, 2) := by decide +kernel
theorem dX1_doLoop_10 : decode cX1_doLoop 10 = .ok (.iload 5, 2) := by decide +kernel
theorem dX1_doLoop_12 : decode cX1_doLoop 12 = .ok (.iload 4, 2) := by decide +kernel
theorem dX1_doLoop_14 : decode cX1_doLoop 14 = .ok (.if_icmp .ge 40, 3) := by decide +kernel
theorem dX1_doLoop_17 : decode cX1_doLoop 17 = .ok (.aload_n 0, 1) := by decide +kernel
theorem dX1_doLoop_18 : decode cX1_doLoop 18 = .ok (.iload_n 2, 1) := by decide +kernel
theorem dX1_doLoop_19 : decode cX1_doLoop 19 = .ok (.iload_n 3, 1) := by decide +kernel
theorem dX1_doLoop_20 : decode cX1_doLoop 20 = .ok (.iconst 1, 1) := by decide +kernel
theorem dX1_doLoop_21 : decode cX1_doLoop 21 = .ok (.invokevirtual 108, 3) := by decide +kernel
theorem dX1_doLoop_24 : decode cX1_doLoop 24 = .ok (.istore 6, 2) := by decide +kernel
theorem dX1_doLoop_26 : decode cX1_doLoop 26 = .ok (.iload 6, 2) := by decide +kernel
theorem dX1_doLoop_28 : decode cX1_doLoop 28 = .ok (.iconst 1, 1) := by decide +kernel
theorem dX1_doLoop_29 : decode cX1_doLoop 29 = .ok (.if_icmp .ne 5, 3) := by decide +kernel
theorem dX1_doLoop_32 : decode cX1_doLoop 32 = .ok (.iconst 0, 1) := by decide +kernel
theorem dX1_doLoop_33 : decode cX1_doLoop 33 = .ok (.ireturn, 1) := by decide +kernel
theorem dX1_doLoop_34 : decode cX1_doLoop 34 = .ok (.iload 6, 2) := by decide +kernel
theorem dX1_doLoop_36 : decode cX1_doLoop 36 = .ok (.ifCond .eq 12, 3) := by decide +kernel
theorem dX1_doLoop_39 : decode cX1_doLoop 39 = .ok (.iload 6, 2) := by decide +kernel
theorem dX1_doLoop_41 : decode cX1_doLoop 41 = .ok (.iconst 2, 1) := by decide +kernel
theorem dX1_doLoop_42 : decode cX1_doLoop 42 = .ok (.if_icmp .eq 6, 3) := by decide +kernel
theorem dX1_doLoop_45 : decode cX1_doLoop 45 = .ok (.iload 6, 2) := by decide +kernel
theorem dX1_doLoop_47 : decode cX1_doLoop 47 = .ok (.ireturn, 1) := by decide +kernel
theorem dX1_doLoop_48 : decode cX1_doLoop 48 = .ok (.iinc 5 1, 3) := by decide +kernel
theorem dX1_doLoop_51 : decode cX1_doLoop 51 = .ok (.goto (-41), 3) := by decide +kernel
theorem dX1_doLoop_54 : decode cX1_doLoop 54 = .ok (.iconst 0, 1) := by decide +kernel
theorem dX1_doLoop_55 : decode cX1_doLoop 55 = .ok (.ireturn, 1) := by decide +kernel
set_option maxRecDepth 20000 in
theorem ggX1_doTry_X1_doBlock : GoodIn wsX1_doTry wsX1_doBlock := goodIn_r _ [8, 9, 10, 11, 12, 13, 14, 6, 15, 16, 17, 18, 19, 20, 21, 4, 22, 1, 2, 3, 23, 24, 25, 26, 27, 28, 29, 30, 31, 32, 33, 34, 35, 36, 37, 38, 39, 40, 41, 42, 43, 44, 45, 46, 47, 48, 49, 50, 51, 52, 53, 54, 55, 56, 57, 58, 59, 60, 61, 62, 63, 5, 7, 64, 65, 66, 67, 68, 69, 70, 71, 72, 73, 74, 75, 76, 77, 78, 79, 80, 81, 82, 83, 84, 85, 86, 87, 88, 89, 90, 91, 92, 93, 94, 95, 96, 97, 98, 99, 100, 101, 102, 103, 104, 105, 106, 107, 108, 109, 110, 111, 112, 113, 114, 115, 116, 117, 118, 119, 120, 0, 121, 122, 123, 124, 125, 126, 127, 128, 129, 130, 131, 132, 133, 134, 135, 136, 137, 138, 139, 140, 141] (by decide +kernel) (by decide +kernel)
set_option maxRecDepth 20000 in
theorem gX1_doTry_X1_doBlock : GoodIn wsX1_doTry (wsV RX1 108 RX1 yX1_doBlock wsX1_doBlock) := goodIn_app (goodIn_of _ (by decide +kernel)) ggX1_doTry_X1_doBlock
set_option maxRecDepth 20000 in
theorem ggX1_doTry_X4_isThrown : GoodIn wsX1_doTry wsX4_isThrown := goodIn_r _ [7] (by decide +kernel) (by decide +kernel)
set_option maxRecDepth 20000 in
theorem gX1_doTry_X4_isThrown_n111 : GoodIn wsX1_doTry (wsX4_isThrown) := ggX1_doTry_X4_isThrown
theorem dX1_doTry_0 : decode cX1_doTry 0 = .ok (.aload_n 0, 1) := by decide +kernel
theorem dX1_doTry_1 : decode cX1_doTry 1 = .ok (.iload_n 2, 1) := by decide +kernel
theorem dX1_doTry_2 : decode cX1_doTry 2 = .ok (.iload 4, 2) := by decide +kernel
theorem dX1_doTry_4 : decode cX1_doTry 4 = .ok (.iload 5, 2) := by decide +kernel
theorem dX1_doTry_6 : decode cX1_doTry 6 = .ok (.invokevirtual 108, 3) := by decide +kernel
theorem dX1_doTry_9 : decode cX1_doTry 9 = .ok (.istore 6, 2) := by decide +kernel
theorem dX1_doTry_11 : decode cX1_doTry 11 = .ok (.iload 6, 2) := by decide +kernel
theorem dX1_doTry_13 : decode cX1_doTry 13 = .ok (.invokestatic 111, 3) := by decide +kernel
theorem dX1_doTry_16 : decode cX1_doTry 16 = .ok (.ifCond .eq 20, 3) := by decide +kernel
theorem dX1_doTry_19 : decode cX1_doTry 19 = .ok (.iload_n 1, 1) := by decide +kernel
theorem dX1_doTry_20 : decode cX1_doTry 20 = .ok (.ifCond .eq 12, 3) := by decide +kernel
theorem dX1_doTry_23 : decode cX1_doTry 23 = .ok (.iload 6, 2) := by decide +kernel
theorem dX1_doTry_25 : decode cX1_doTry 25 = .ok (.bipush 100, 2) := by decide +kernel
theorem dX1_doTry_27 : decode cX1_doTry 27 = .ok (.iload_n 1, 1) := by decide +kernel
theorem dX1_doTry_28 : decode cX1_doTry 28 = .ok (.iadd, 1) := by decide +kernel
theorem dX1_doTry_29 : decode cX1_doTry 29 = .ok (.if_icmp .ne 7, 3) := by decide +kernel
theorem dX1_doTry_32 : decode cX1_doTry 32 = .ok (.iconst 1, 1) := by decide +kernel
theorem dX1_doTry_33 : decode cX1_doTry 33 = .ok (.goto 4, 3) := by decide +kernel
theorem dX1_doTry_36 : decode cX1_doTry 36 = .ok (.iconst 0, 1) := by decide +kernel
theorem dX1_doTry_37 : decode cX1_doTry 37 = .ok (.istore 7, 2) := by decide +kernel
theorem dX1_doTry_39 : decode cX1_doTry 39 = .ok (.iload 7, 2) := by decide +kernel
theorem dX1_doTry_41 : decode cX1_doTry 41 = .ok (.ifCond .eq 15, 3) := by decide +kernel
theorem dX1_doTry_44 : decode cX1_doTry 44 = .ok (.aload_n 0, 1) := by decide +kernel
theorem dX1_doTry_45 : decode cX1_doTry 45 = .ok (.iload_n 3, 1) := by decide +kernel
theorem dX1_doTry_46 : decode cX1_doTry 46 = .ok (.iload 4, 2) := by decide +kernel
theorem dX1_doTry_48 : decode cX1_doTry 48 = .ok (.iload 5, 2) := by decide +kernel
theorem dX1_doTry_50 : decode cX1_doTry 50 = .ok (.invokevirtual 108, 3) := by decide +kernel
theorem dX1_doTry_53 : decode cX1_doTry 53 = .ok (.goto 5, 3) := by decide +kernel
theorem dX1_doTry_56 : decode cX1_doTry 56 = .ok (.iload 6, 2) := by decide +kernel
theorem dX1_doTry_58 : decode cX1_doTry 58 = .ok (.ireturn, 1) := by decide +kernel
set_option maxRecDepth 20000 in
theorem ggX1_doBoth_X1_doBlock : GoodIn wsX1_doBoth wsX1_doBlock := goodIn_r _ [5, 6, 7, 8, 9, 10, 11, 12, 13, 14, 15, 16, 17, 18, 19, 4, 0, 1, 2, 3, 20, 21, 22, 23, 24, 25, 26, 27, 28, 29, 30, 31, 32, 33, 34, 35, 36, 37, 38, 39, 40, 41, 42, 43, 44, 45, 46, 47, 48, 49, 50, 51, 52, 53, 54, 55, 56, 57, 58, 59, 60, 61, 62, 63, 64, 65, 66, 67, 68, 69, 70, 71, 72, 73, 74, 75, 76, 77, 78, 79, 80, 81, 82, 83, 84, 85, 86, 87, 88, 89, 90, 91, 92, 93, 94, 95, 96, 97, 98, 99, 100, 101, 102, 103, 104, 105, 106, 107, 108, 109, 110, 111, 112, 113, 114, 115, 116, 117, 118, 119, 120, 121, 122, 123, 124, 125, 126, 127, 128, 129, 130, 131, 132, 133, 134, 135, 136, 137, 138, 139, 140, 141] (by decide +kernel) (by decide +kernel)
set_option maxRecDepth 20000 in
theorem gX1_doBoth_X1_doBlock : GoodIn wsX1_doBoth (wsV RX1 108 RX1 yX1_doBlock wsX1_doBlock) := goodIn_app (goodIn_of _ (by decide +kernel)) ggX1_doBoth_X1_doBlock
theorem dX1_doBoth_0 : decode cX1_doBoth 0 = .ok (.aload_n 0, 1) := by decide +kernel
theorem dX1_doBoth_1 : decode cX1_doBoth 1 = .ok (.iload_n 1, 1) := by decide +kernel
theorem dX1_doBoth_2 : decode cX1_doBoth 2 = .ok (.iload_n 3, 1) := by decide +kernel
theorem dX1_doBoth_3 : decode cX1_doBoth 3 = .ok (.iload 4, 2) := by decide +kernel
theorem dX1_doBoth_5 : decode cX1_doBoth 5 = .ok (.invokevirtual 108, 3) := by decide +kernel
theorem dX1_doBoth_8 : decode cX1_doBoth 8 = .ok (.istore 5, 2) := by decide +kernel
theorem dX1_doBoth_10 : decode cX1_doBoth 10 = .ok (.iload 5, 2) := by decide +kernel
theorem dX1_doBoth_12 : decode cX1_doBoth 12 = .ok (.iconst 5, 1) := by decide +kernel
theorem dX1_doBoth_13 : decode cX1_doBoth 13 = .ok (.if_icmp .ne 5, 3) := by decide +kernel
theorem dX1_doBoth_16 : decode cX1_doBoth 16 = .ok (.iconst 5, 1) := by decide +kernel
theorem dX1_doBoth_17 : decode cX1_doBoth 17 = .ok (.ireturn, 1) := by decide +kernel
theorem dX1_doBoth_18 : decode cX1_doBoth 18 = .ok (.aload_n 0, 1) := by decide +kernel
theorem dX1_doBoth_19 : decode cX1_doBoth 19 = .ok (.iload_n 2, 1) := by decide +kernel
theorem dX1_doBoth_20 : decode cX1_doBoth 20 = .ok (.iload_n 3, 1) := by decide +kernel
theorem dX1_doBoth_21 : decode cX1_doBoth 21 = .ok (.iload 4, 2) := by decide +kernel
theorem dX1_doBoth_23 : decode cX1_doBoth 23 = .ok (.invokevirtual 108, 3) := by decide +kernel
theorem dX1_doBoth_26 : decode cX1_doBoth 26 = .ok (.istore 6, 2) := by decide +kernel
theorem dX1_doBoth_28 : decode cX1_doBoth 28 = .ok (.iload 6, 2) := by decide +kernel
theorem dX1_doBoth_30 : decode cX1_doBoth 30 = .ok (.ifCond .ne 8, 3) := by decide +kernel
theorem dX1_doBoth_33 : decode cX1_doBoth 33 = .ok (.iload 5, 2) := by decide +kernel
theorem dX1_doBoth_35 : decode cX1_doBoth 35 = .ok (.goto 5, 3) := by decide +kernel
theorem dX1_doBoth_38 : decode cX1_doBoth 38 = .ok (.iload 6, 2) := by decide +kernel
theorem dX1_doBoth_40 : decode cX1_doBoth 40 = .ok (.ireturn, 1) := by decide +kernel
set_option maxRecDepth 20000 in
theorem ggX1_doCall_X1_doBlock : GoodIn wsX1_doCall wsX1_doBlock := goodIn_r _ [5, 6, 7, 8, 9, 10, 11, 12, 13, 14, 15, 16, 17, 18, 19, 4, 20, 1, 2, 3, 0, 21, 22, 23, 24, 25, 26, 27, 28, 29, 30, 31, 32, 33, 34, 35, 36, 37, 38, 39, 40, 41, 42, 43, 44, 45, 46, 47, 48, 49, 50, 51, 52, 53, 54, 55, 56, 57, 58, 59, 60, 61, 62, 63, 64, 65, 66, 67, 68, 69, 70, 71, 72, 73, 74, 75, 76, 77, 78, 79, 80, 81, 82, 83, 84, 85, 86, 87, 88, 89, 90, 91, 92, 93, 94, 95, 96, 97, 98, 99, 100, 101, 102, 103, 104, 105, 106, 107, 108, 109, 110, 111, 112, 113, 114, 115, 116, 117, 118, 119, 120, 121, 122, 123, 124, 125, 126, 127, 128, 129, 130, 131, 132, 133, 134, 135, 136, 137, 138, 139, 140, 141] (by decide +kernel) (by decide +kernel)
set_option maxRecDepth 20000 in
theorem gX1_doCall_X1_doBlock : GoodIn wsX1_doCall (wsV RX1 108 RX1 yX1_doBlock wsX1_doBlock) := goodIn_app (goodIn_of _ (by decide +kernel)) ggX1_doCall_X1_doBlock
theorem dX1_doCall_0 : decode cX1_doCall 0 = .ok (.aload_n 0, 1) := by decide +kernel
theorem dX1_doCall_1 : decode cX1_doCall 1 = .ok (.iload_n 1, 1) := by decide +kernel
theorem dX1_doCall_2 : decode cX1_doCall 2 = .ok (.iload_n 2, 1) := by decide +kernel
theorem dX1_doCall_3 : decode cX1_doCall 3 = .ok (.iconst 0, 1) := by decide +kernel
theorem dX1_doCall_4 : decode cX1_doCall 4 = .ok (.invokevirtual 108, 3) := by decide +kernel
theorem dX1_doCall_7 : decode cX1_doCall 7 = .ok (.istore_n 3, 1) := by decide +kernel
theorem dX1_doCall_8 : decode cX1_doCall 8 = .ok (.iload_n 3, 1) := by decide +kernel
theorem dX1_doCall_9 : decode cX1_doCall 9 = .ok (.iconst 3, 1) := by decide +kernel
theorem dX1_doCall_10 : decode cX1_doCall 10 = .ok (.if_icmp .ne 7, 3) := by decide +kernel
theorem dX1_doCall_13 : decode cX1_doCall 13 = .ok (.iconst 0, 1) := by decide +kernel
theorem dX1_doCall_14 : decode cX1_doCall 14 = .ok (.goto 4, 3) := by decide +kernel
theorem dX1_doCall_17 : decode cX1_doCall 17 = .ok (.iload_n 3, 1) := by decide +kernel
theorem dX1_doCall_18 : decode cX1_doCall 18 = .ok (.ireturn, 1) := by decide +kernel
set_option maxRecDepth 20000 in
theorem ggX1_doAdd_X2_thingIn : GoodIn wsX1_doAdd wsX2_thingIn := goodIn_r _ [5, 6, 7, 8, 9, 10, 11, 12, 30, 31, 32, 33] (by decide +kernel) (by decide +kernel)
set_option maxRecDepth 20000 in
theorem gX1_doAdd_X2_thingIn_n89 : GoodIn wsX1_doAdd (wsX2_thingIn) := ggX1_doAdd_X2_thingIn
set_option maxRecDepth 20000 in
theorem ggX1_doAdd_X2_isHeld : GoodIn wsX1_doAdd wsX2_isHeld := goodIn_r _ [15, 16, 17, 18, 19, 3, 20, 21, 30, 31, 32, 33] (by decide +kernel) (by decide +kernel)
set_option maxRecDepth 20000 in
theorem gX1_doAdd_X2_isHeld_n126 : GoodIn wsX1_doAdd (wsX2_isHeld) := ggX1_doAdd_X2_isHeld
set_option maxRecDepth 20000 in
theorem ggX1_doAdd_X2_raiseNumber : GoodIn wsX1_doAdd wsX2_raiseNumber := goodIn_r _ [24, 25, 17, 18, 19, 3, 20, 21, 30, 31, 32, 33] (by decide +kernel) (by decide +kernel)
set_option maxRecDepth 20000 in
theorem gX1_doAdd_X2_raiseNumber_n129 : GoodIn wsX1_doAdd (wsX2_raiseNumber) := ggX1_doAdd_X2_raiseNumber
theorem dX1_doAdd_0 : decode cX1_doAdd 0 = .ok (.aload_n 0, 1) := by decide +kernel
theorem dX1_doAdd_1 : decode cX1_doAdd 1 = .ok (.getfield 9, 3) := by decide +kernel
theorem dX1_doAdd_4 : decode cX1_doAdd 4 = .ok (.iload_n 2, 1) := by decide +kernel
theorem dX1_doAdd_5 : decode cX1_doAdd 5 = .ok (.invokevirtual 89, 3) := by decide +kernel
theorem dX1_doAdd_8 : decode cX1_doAdd 8 = .ok (.istore_n 3, 1) := by decide +kernel
theorem dX1_doAdd_9 : decode cX1_doAdd 9 = .ok (.iload_n 3, 1) := by decide +kernel
theorem dX1_doAdd_10 : decode cX1_doAdd 10 = .ok (.iconst (-1), 1) := by decide +kernel
theorem dX1_doAdd_11 : decode cX1_doAdd 11 = .ok (.if_icmp .ne 6, 3) := by decide +kernel
end
section
theorem dX1_doAdd_14 : decode cX1_doAdd 14 = .ok (.bipush 112, 2) := by decide +kernel
theorem dX1_doAdd_16 : decode cX1_doAdd 16 = .ok (.ireturn, 1) := by decide +kernel
theorem dX1_doAdd_17 : decode cX1_doAdd 17 = .ok (.aload_n 0, 1) := by decide +kernel
theorem dX1_doAdd_18 : decode cX1_doAdd 18 = .ok (.getfield 9, 3) := by decide +kernel
theorem dX1_doAdd_21 : decode cX1_doAdd 21 = .ok (.iload_n 3, 1) := by decide +kernel
theorem dX1_doAdd_22 : decode cX1_doAdd 22 = .ok (.invokevirtual 126, 3) := by decide +kernel
theorem dX1_doAdd_25 : decode cX1_doAdd 25 = .ok (.ifCond .ne 6, 3) := by decide +kernel
theorem dX1_doAdd_28 : decode cX1_doAdd 28 = .ok (.bipush 111, 2) := by decide +kernel
theorem dX1_doAdd_30 : decode cX1_doAdd 30 = .ok (.ireturn, 1) := by decide +kernel
theorem dX1_doAdd_31 : decode cX1_doAdd 31 = .ok (.aload_n 0, 1) := by decide +kernel
theorem dX1_doAdd_32 : decode cX1_doAdd 32 = .ok (.getfield 9, 3) := by decide +kernel
theorem dX1_doAdd_35 : decode cX1_doAdd 35 = .ok (.iload_n 3, 1) := by decide +kernel
theorem dX1_doAdd_36 : decode cX1_doAdd 36 = .ok (.iload_n 1, 1) := by decide +kernel
theorem dX1_doAdd_37 : decode cX1_doAdd 37 = .ok (.invokevirtual 129, 3) := by decide +kernel
theorem dX1_doAdd_40 : decode cX1_doAdd 40 = .ok (.iconst 0, 1) := by decide +kernel
theorem dX1_doAdd_41 : decode cX1_doAdd 41 = .ok (.ireturn, 1) := by decide +kernel
set_option maxRecDepth 20000 in
theorem ggX1_doNew_X2_makeThing : GoodIn wsX1_doNew wsX2_makeThing := goodIn_r _ [5, 6, 7, 8, 9, 3, 10, 11, 12, 13, 14, 15, 16, 17, 22, 23, 24, 25] (by decide +kernel) (by decide +kernel)
set_option maxRecDepth 20000 in
theorem gX1_doNew_X2_makeThing_n132 : GoodIn wsX1_doNew (wsX2_makeThing) := ggX1_doNew_X2_makeThing
theorem dX1_doNew_0 : decode cX1_doNew 0 = .ok (.aload_n 0, 1) := by decide +kernel
theorem dX1_doNew_1 : decode cX1_doNew 1 = .ok (.getfield 9, 3) := by decide +kernel
theorem dX1_doNew_4 : decode cX1_doNew 4 = .ok (.iload_n 1, 1) := by decide +kernel
theorem dX1_doNew_5 : decode cX1_doNew 5 = .ok (.invokevirtual 132, 3) := by decide +kernel
theorem dX1_doNew_8 : decode cX1_doNew 8 = .ok (.bipush (-3), 2) := by decide +kernel
theorem dX1_doNew_10 : decode cX1_doNew 10 = .ok (.if_icmp .ne 8, 3) := by decide +kernel
theorem dX1_doNew_13 : decode cX1_doNew 13 = .ok (.bipush 113, 2) := by decide +kernel
theorem dX1_doNew_15 : decode cX1_doNew 15 = .ok (.goto 4, 3) := by decide +kernel
theorem dX1_doNew_18 : decode cX1_doNew 18 = .ok (.iconst 0, 1) := by decide +kernel
theorem dX1_doNew_19 : decode cX1_doNew 19 = .ok (.ireturn, 1) := by decide +kernel
set_option maxRecDepth 20000 in
theorem ggX1_doSweep_X2_thingIn : GoodIn wsX1_doSweep wsX2_thingIn := goodIn_r _ [6, 7, 8, 9, 10, 11, 12, 13, 64, 65, 66, 67] (by decide +kernel) (by decide +kernel)
set_option maxRecDepth 20000 in
theorem gX1_doSweep_X2_thingIn_n89 : GoodIn wsX1_doSweep (wsX2_thingIn) := ggX1_doSweep_X2_thingIn
set_option maxRecDepth 20000 in
theorem ggX1_doSweep_X1_beginHold : GoodIn wsX1_doSweep wsX1_beginHold := goodIn_r _ [18, 1, 2, 19, 4, 20, 21, 22, 23, 24, 25, 26, 27, 28, 29, 30, 31, 32, 33, 34, 35, 36, 37, 38, 39, 40, 41, 42, 43, 44, 60, 61, 62, 63, 64, 65, 66, 67, 68, 69, 70, 71, 72, 73, 74] (by decide +kernel) (by decide +kernel)
set_option maxRecDepth 20000 in
theorem gX1_doSweep_X1_beginHold : GoodIn wsX1_doSweep (wsV RX1 105 RX1 yX1_beginHold wsX1_beginHold) := goodIn_app (goodIn_of _ (by decide +kernel)) ggX1_doSweep_X1_beginHold
set_option maxRecDepth 20000 in
theorem ggX1_doSweep_X2_numberOf : GoodIn wsX1_doSweep wsX2_numberOf := goodIn_r _ [47, 48, 23, 24, 25, 4, 26, 27, 64, 65, 66, 67] (by decide +kernel) (by decide +kernel)
set_option maxRecDepth 20000 in
theorem gX1_doSweep_X2_numberOf_n135 : GoodIn wsX1_doSweep (wsX2_numberOf) := ggX1_doSweep_X2_numberOf
set_option maxRecDepth 20000 in
theorem ggX1_doSweep_X1_leaveHold : GoodIn wsX1_doSweep wsX1_leaveHold := goodIn_r _ [52, 1, 2, 19, 4, 20, 21, 22, 23, 24, 25, 26, 27, 53, 29, 54, 55, 33, 56, 39, 40, 41, 42, 43, 44, 60, 61, 62, 63, 64, 65, 66, 67, 68, 69, 70, 71, 72, 73, 74] (by decide +kernel) (by decide +kernel)
set_option maxRecDepth 20000 in
theorem gX1_doSweep_X1_leaveHold : GoodIn wsX1_doSweep (wsV RX1 114 RX1 yX1_leaveHold wsX1_leaveHold) := goodIn_app (goodIn_of _ (by decide +kernel)) ggX1_doSweep_X1_leaveHold
set_option maxRecDepth 20000 in
theorem ggX1_doSweep_X3_enterMark : GoodIn wsX1_doSweep wsX3_enterMark := goodIn_r _ [59, 39, 40, 41, 29, 42, 43, 44, 68, 69, 70, 71, 72, 73, 74] (by decide +kernel) (by decide +kernel)
set_option maxRecDepth 20000 in
theorem gX1_doSweep_X3_enterMark_n64 : GoodIn wsX1_doSweep (wsX3_enterMark) := ggX1_doSweep_X3_enterMark
theorem dX1_doSweep_0 : decode cX1_doSweep 0 = .ok (.iconst 0, 1) := by decide +kernel
theorem dX1_doSweep_1 : decode cX1_doSweep 1 = .ok (.istore_n 2, 1) := by decide +kernel
theorem dX1_doSweep_2 : decode cX1_doSweep 2 = .ok (.iconst 0, 1) := by decide +kernel
theorem dX1_doSweep_3 : decode cX1_doSweep 3 = .ok (.istore_n 3, 1) := by decide +kernel
theorem dX1_doSweep_4 : decode cX1_doSweep 4 = .ok (.iconst 0, 1) := by decide +kernel
theorem dX1_doSweep_5 : decode cX1_doSweep 5 = .ok (.istore 4, 2) := by decide +kernel
theorem dX1_doSweep_7 : decode cX1_doSweep 7 = .ok (.iload 4, 2) := by decide +kernel
theorem dX1_doSweep_9 : decode cX1_doSweep 9 = .ok (.bipush 6, 2) := by decide +kernel
theorem dX1_doSweep_11 : decode cX1_doSweep 11 = .ok (.if_icmp .ge 76, 3) := by decide +kernel
theorem dX1_doSweep_14 : decode cX1_doSweep 14 = .ok (.iload_n 3, 1) := by decide +kernel
theorem dX1_doSweep_15 : decode cX1_doSweep 15 = .ok (.ifCond .ne 72, 3) := by decide +kernel
theorem dX1_doSweep_18 : decode cX1_doSweep 18 = .ok (.aload_n 0, 1) := by decide +kernel
theorem dX1_doSweep_19 : decode cX1_doSweep 19 = .ok (.getfield 9, 3) := by decide +kernel
theorem dX1_doSweep_22 : decode cX1_doSweep 22 = .ok (.iload 4, 2) := by decide +kernel
theorem dX1_doSweep_24 : decode cX1_doSweep 24 = .ok (.invokevirtual 89, 3) := by decide +kernel
theorem dX1_doSweep_27 : decode cX1_doSweep 27 = .ok (.istore 5, 2) := by decide +kernel
theorem dX1_doSweep_29 : decode cX1_doSweep 29 = .ok (.iload 5, 2) := by decide +kernel
theorem dX1_doSweep_31 : decode cX1_doSweep 31 = .ok (.iconst (-1), 1) := by decide +kernel
theorem dX1_doSweep_32 : decode cX1_doSweep 32 = .ok (.if_icmp .eq 49, 3) := by decide +kernel
theorem dX1_doSweep_35 : decode cX1_doSweep 35 = .ok (.aload_n 0, 1) := by decide +kernel
theorem dX1_doSweep_36 : decode cX1_doSweep 36 = .ok (.iload 5, 2) := by decide +kernel
theorem dX1_doSweep_38 : decode cX1_doSweep 38 = .ok (.invokevirtual 105, 3) := by decide +kernel
theorem dX1_doSweep_41 : decode cX1_doSweep 41 = .ok (.aload_n 0, 1) := by decide +kernel
theorem dX1_doSweep_42 : decode cX1_doSweep 42 = .ok (.getfield 9, 3) := by decide +kernel
theorem dX1_doSweep_45 : decode cX1_doSweep 45 = .ok (.iload 5, 2) := by decide +kernel
theorem dX1_doSweep_47 : decode cX1_doSweep 47 = .ok (.invokevirtual 135, 3) := by decide +kernel
theorem dX1_doSweep_50 : decode cX1_doSweep 50 = .ok (.istore 6, 2) := by decide +kernel
theorem dX1_doSweep_52 : decode cX1_doSweep 52 = .ok (.iload 6, 2) := by decide +kernel
theorem dX1_doSweep_54 : decode cX1_doSweep 54 = .ok (.iload_n 1, 1) := by decide +kernel
theorem dX1_doSweep_55 : decode cX1_doSweep 55 = .ok (.if_icmp .eq 19, 3) := by decide +kernel
theorem dX1_doSweep_58 : decode cX1_doSweep 58 = .ok (.iload_n 2, 1) := by decide +kernel
theorem dX1_doSweep_59 : decode cX1_doSweep 59 = .ok (.iload 6, 2) := by decide +kernel
theorem dX1_doSweep_61 : decode cX1_doSweep 61 = .ok (.iadd, 1) := by decide +kernel
theorem dX1_doSweep_62 : decode cX1_doSweep 62 = .ok (.istore_n 2, 1) := by decide +kernel
theorem dX1_doSweep_63 : decode cX1_doSweep 63 = .ok (.iload 6, 2) := by decide +kernel
theorem dX1_doSweep_65 : decode cX1_doSweep 65 = .ok (.ifCond .ge 7, 3) := by decide +kernel
theorem dX1_doSweep_68 : decode cX1_doSweep 68 = .ok (.iconst 1, 1) := by decide +kernel
theorem dX1_doSweep_69 : decode cX1_doSweep 69 = .ok (.goto 4, 3) := by decide +kernel
theorem dX1_doSweep_72 : decode cX1_doSweep 72 = .ok (.iconst 0, 1) := by decide +kernel
theorem dX1_doSweep_73 : decode cX1_doSweep 73 = .ok (.istore_n 3, 1) := by decide +kernel
theorem dX1_doSweep_74 : decode cX1_doSweep 74 = .ok (.aload_n 0, 1) := by decide +kernel
theorem dX1_doSweep_75 : decode cX1_doSweep 75 = .ok (.iload 5, 2) := by decide +kernel
theorem dX1_doSweep_77 : decode cX1_doSweep 77 = .ok (.iconst 0, 1) := by decide +kernel
theorem dX1_doSweep_78 : decode cX1_doSweep 78 = .ok (.invokevirtual 114, 3) := by decide +kernel
theorem dX1_doSweep_81 : decode cX1_doSweep 81 = .ok (.iinc 4 1, 3) := by decide +kernel
theorem dX1_doSweep_84 : decode cX1_doSweep 84 = .ok (.goto (-77), 3) := by decide +kernel
theorem dX1_doSweep_87 : decode cX1_doSweep 87 = .ok (.aload_n 0, 1) := by decide +kernel
theorem dX1_doSweep_88 : decode cX1_doSweep 88 = .ok (.getfield 19, 3) := by decide +kernel
theorem dX1_doSweep_91 : decode cX1_doSweep 91 = .ok (.iload_n 2, 1) := by decide +kernel
theorem dX1_doSweep_92 : decode cX1_doSweep 92 = .ok (.invokevirtual 64, 3) := by decide +kernel
theorem dX1_doSweep_95 : decode cX1_doSweep 95 = .ok (.return_, 1) := by decide +kernel
set_option maxRecDepth 20000 in
theorem ggX2_init_J7_fill_53178 : GoodIn wsX2_init wsJ7_fill_53178 := goodIn_r _ [12] (by decide +kernel) (by decide +kernel)
set_option maxRecDepth 20000 in
theorem gX2_init_J7_fill_53178 : GoodIn wsX2_init (va_wsS RX2 15 yJ7_fill_53178 wsJ7_fill_53178) := goodIn_app (goodIn_of _ (by decide +kernel)) ggX2_init_J7_fill_53178
theorem dX2_init_0 : decode cX2_init 0 = .ok (.aload_n 0, 1) := by decide +kernel
theorem dX2_init_1 : decode cX2_init 1 = .ok (.invokespecial 3, 3) := by decide +kernel
theorem dX2_init_4 : decode cX2_init 4 = .ok (.aload_n 0, 1) := by decide +kernel
theorem dX2_init_5 : decode cX2_init 5 = .ok (.bipush 6, 2) := by decide +kernel
theorem dX2_init_7 : decode cX2_init 7 = .ok (.newarray .int, 2) := by decide +kernel
theorem dX2_init_9 : decode cX2_init 9 = .ok (.putfield 9, 3) := by decide +kernel
theorem dX2_init_12 : decode cX2_init 12 = .ok (.aload_n 0, 1) := by decide +kernel
theorem dX2_init_13 : decode cX2_init 13 = .ok (.getfield 9, 3) := by decide +kernel
theorem dX2_init_16 : decode cX2_init 16 = .ok (.iconst (-1), 1) := by decide +kernel
theorem dX2_init_17 : decode cX2_init 17 = .ok (.invokestatic 15, 3) := by decide +kernel
theorem dX2_init_20 : decode cX2_init 20 = .ok (.aload_n 0, 1) := by decide +kernel
theorem dX2_init_21 : decode cX2_init 21 = .ok (.bipush 60, 2) := by decide +kernel
theorem dX2_init_23 : decode cX2_init 23 = .ok (.newarray .int, 2) := by decide +kernel
theorem dX2_init_25 : decode cX2_init 25 = .ok (.putfield 21, 3) := by decide +kernel
theorem dX2_init_28 : decode cX2_init 28 = .ok (.aload_n 0, 1) := by decide +kernel
theorem dX2_init_29 : decode cX2_init 29 = .ok (.bipush 60, 2) := by decide +kernel
theorem dX2_init_31 : decode cX2_init 31 = .ok (.newarray .int, 2) := by decide +kernel
theorem dX2_init_33 : decode cX2_init 33 = .ok (.putfield 24, 3) := by decide +kernel
theorem dX2_init_36 : decode cX2_init 36 = .ok (.aload_n 0, 1) := by decide +kernel
theorem dX2_init_37 : decode cX2_init 37 = .ok (.iconst 0, 1) := by decide +kernel
theorem dX2_init_38 : decode cX2_init 38 = .ok (.putfield 27, 3) := by decide +kernel
theorem dX2_init_41 : decode cX2_init 41 = .ok (.return_, 1) := by decide +kernel
theorem dX2_isThing_0 : decode cX2_isThing 0 = .ok (.iload_n 1, 1) := by decide +kernel
theorem dX2_isThing_1 : decode cX2_isThing 1 = .ok (.ifCond .lt 15, 3) := by decide +kernel
theorem dX2_isThing_4 : decode cX2_isThing 4 = .ok (.iload_n 1, 1) := by decide +kernel
theorem dX2_isThing_5 : decode cX2_isThing 5 = .ok (.aload_n 0, 1) := by decide +kernel
theorem dX2_isThing_6 : decode cX2_isThing 6 = .ok (.getfield 27, 3) := by decide +kernel
theorem dX2_isThing_9 : decode cX2_isThing 9 = .ok (.if_icmp .ge 7, 3) := by decide +kernel
theorem dX2_isThing_12 : decode cX2_isThing 12 = .ok (.iconst 1, 1) := by decide +kernel
theorem dX2_isThing_13 : decode cX2_isThing 13 = .ok (.goto 4, 3) := by decide +kernel
theorem dX2_isThing_16 : decode cX2_isThing 16 = .ok (.iconst 0, 1) := by decide +kernel
theorem dX2_isThing_17 : decode cX2_isThing 17 = .ok (.ireturn, 1) := by decide +kernel
set_option maxRecDepth 20000 in
theorem ggX2_makeThing_X2_put : GoodIn wsX2_makeThing wsX2_put := goodIn_r _ [6, 7, 8, 9, 10, 11, 12, 13, 14, 15, 16, 17] (by decide +kernel) (by decide +kernel)
set_option maxRecDepth 20000 in
theorem gX2_makeThing_X2_put : GoodIn wsX2_makeThing (wsV RX2 31 RX2 yX2_put wsX2_put) := goodIn_app (goodIn_of _ (by decide +kernel)) ggX2_makeThing_X2_put
theorem dX2_makeThing_0 : decode cX2_makeThing 0 = .ok (.aload_n 0, 1) := by decide +kernel
theorem dX2_makeThing_1 : decode cX2_makeThing 1 = .ok (.getfield 27, 3) := by decide +kernel
theorem dX2_makeThing_4 : decode cX2_makeThing 4 = .ok (.bipush 60, 2) := by decide +kernel
theorem dX2_makeThing_6 : decode cX2_makeThing 6 = .ok (.if_icmp .lt 6, 3) := by decide +kernel
theorem dX2_makeThing_9 : decode cX2_makeThing 9 = .ok (.bipush (-3), 2) := by decide +kernel
theorem dX2_makeThing_11 : decode cX2_makeThing 11 = .ok (.ireturn, 1) := by decide +kernel
theorem dX2_makeThing_12 : decode cX2_makeThing 12 = .ok (.aload_n 0, 1) := by decide +kernel
theorem dX2_makeThing_13 : decode cX2_makeThing 13 = .ok (.getfield 27, 3) := by decide +kernel
theorem dX2_makeThing_16 : decode cX2_makeThing 16 = .ok (.istore_n 2, 1) := by decide +kernel
theorem dX2_makeThing_17 : decode cX2_makeThing 17 = .ok (.aload_n 0, 1) := by decide +kernel
theorem dX2_makeThing_18 : decode cX2_makeThing 18 = .ok (.dup, 1) := by decide +kernel
theorem dX2_makeThing_19 : decode cX2_makeThing 19 = .ok (.getfield 27, 3) := by decide +kernel
theorem dX2_makeThing_22 : decode cX2_makeThing 22 = .ok (.iconst 1, 1) := by decide +kernel
theorem dX2_makeThing_23 : decode cX2_makeThing 23 = .ok (.iadd, 1) := by decide +kernel
theorem dX2_makeThing_24 : decode cX2_makeThing 24 = .ok (.putfield 27, 3) := by decide +kernel
theorem dX2_makeThing_27 : decode cX2_makeThing 27 = .ok (.aload_n 0, 1) := by decide +kernel
theorem dX2_makeThing_28 : decode cX2_makeThing 28 = .ok (.iload_n 1, 1) := by decide +kernel
theorem dX2_makeThing_29 : decode cX2_makeThing 29 = .ok (.iload_n 2, 1) := by decide +kernel
theorem dX2_makeThing_30 : decode cX2_makeThing 30 = .ok (.invokevirtual 31, 3) := by decide +kernel
theorem dX2_makeThing_33 : decode cX2_makeThing 33 = .ok (.iload_n 2, 1) := by decide +kernel
theorem dX2_makeThing_34 : decode cX2_makeThing 34 = .ok (.ireturn, 1) := by decide +kernel
set_option maxRecDepth 20000 in
theorem ggX2_thingIn_X4_isPlace : GoodIn wsX2_thingIn wsX4_isPlace := goodIn_r _ [4, 5, 6, 3, 7] (by decide +kernel) (by decide +kernel)
set_option maxRecDepth 20000 in
theorem gX2_thingIn_X4_isPlace_n35 : GoodIn wsX2_thingIn (wsX4_isPlace) := ggX2_thingIn_X4_isPlace
theorem dX2_thingIn_0 : decode cX2_thingIn 0 = .ok (.iload_n 1, 1) := by decide +kernel
theorem dX2_thingIn_1 : decode cX2_thingIn 1 = .ok (.invokestatic 35, 3) := by decide +kernel
theorem dX2_thingIn_4 : decode cX2_thingIn 4 = .ok (.ifCond .eq 12, 3) := by decide +kernel
theorem dX2_thingIn_7 : decode cX2_thingIn 7 = .ok (.aload_n 0, 1) := by decide +kernel
theorem dX2_thingIn_8 : decode cX2_thingIn 8 = .ok (.getfield 9, 3) := by decide +kernel
theorem dX2_thingIn_11 : decode cX2_thingIn 11 = .ok (.iload_n 1, 1) := by decide +kernel
theorem dX2_thingIn_12 : decode cX2_thingIn 12 = .ok (.iaload, 1) := by decide +kernel
theorem dX2_thingIn_13 : decode cX2_thingIn 13 = .ok (.goto 4, 3) := by decide +kernel
theorem dX2_thingIn_16 : decode cX2_thingIn 16 = .ok (.iconst (-1), 1) := by decide +kernel
theorem dX2_thingIn_17 : decode cX2_thingIn 17 = .ok (.ireturn, 1) := by decide +kernel
set_option maxRecDepth 20000 in
theorem ggX2_put_X4_isPlace : GoodIn wsX2_put wsX4_isPlace := goodIn_r _ [4, 5, 6, 3, 7] (by decide +kernel) (by decide +kernel)
set_option maxRecDepth 20000 in
theorem gX2_put_X4_isPlace_n35 : GoodIn wsX2_put (wsX4_isPlace) := ggX2_put_X4_isPlace
theorem dX2_put_0 : decode cX2_put 0 = .ok (.iload_n 1, 1) := by decide +kernel
theorem dX2_put_1 : decode cX2_put 1 = .ok (.invokestatic 35, 3) := by decide +kernel
theorem dX2_put_4 : decode cX2_put 4 = .ok (.ifCond .eq 10, 3) := by decide +kernel
theorem dX2_put_7 : decode cX2_put 7 = .ok (.aload_n 0, 1) := by decide +kernel
theorem dX2_put_8 : decode cX2_put 8 = .ok (.getfield 9, 3) := by decide +kernel
theorem dX2_put_11 : decode cX2_put 11 = .ok (.iload_n 1, 1) := by decide +kernel
theorem dX2_put_12 : decode cX2_put 12 = .ok (.iload_n 2, 1) := by decide +kernel
theorem dX2_put_13 : decode cX2_put 13 = .ok (.iastore, 1) := by decide +kernel
theorem dX2_put_14 : decode cX2_put 14 = .ok (.return_, 1) := by decide +kernel
set_option maxRecDepth 20000 in
theorem ggX2_numberOf_X2_isThing : GoodIn wsX2_numberOf wsX2_isThing := goodIn_r _ [6, 7, 8, 9, 10, 11] (by decide +kernel) (by decide +kernel)
set_option maxRecDepth 20000 in
theorem gX2_numberOf_X2_isThing : GoodIn wsX2_numberOf (wsV RX2 39 RX2 yX2_isThing wsX2_isThing) := goodIn_app (goodIn_of _ (by decide +kernel)) ggX2_numberOf_X2_isThing
theorem dX2_numberOf_0 : decode cX2_numberOf 0 = .ok (.aload_n 0, 1) := by decide +kernel
theorem dX2_numberOf_1 : decode cX2_numberOf 1 = .ok (.iload_n 1, 1) := by decide +kernel
theorem dX2_numberOf_2 : decode cX2_numberOf 2 = .ok (.invokevirtual 39, 3) := by decide +kernel
theorem dX2_numberOf_5 : decode cX2_numberOf 5 = .ok (.ifCond .eq 12, 3) := by decide +kernel
theorem dX2_numberOf_8 : decode cX2_numberOf 8 = .ok (.aload_n 0, 1) := by decide +kernel
theorem dX2_numberOf_9 : decode cX2_numberOf 9 = .ok (.getfield 21, 3) := by decide +kernel
theorem dX2_numberOf_12 : decode cX2_numberOf 12 = .ok (.iload_n 1, 1) := by decide +kernel
theorem dX2_numberOf_13 : decode cX2_numberOf 13 = .ok (.iaload, 1) := by decide +kernel
theorem dX2_numberOf_14 : decode cX2_numberOf 14 = .ok (.goto 4, 3) := by decide +kernel
theorem dX2_numberOf_17 : decode cX2_numberOf 17 = .ok (.iconst 0, 1) := by decide +kernel
theorem dX2_numberOf_18 : decode cX2_numberOf 18 = .ok (.ireturn, 1) := by decide +kernel
set_option maxRecDepth 20000 in
theorem ggX2_raiseNumber_X2_isThing : GoodIn wsX2_raiseNumber wsX2_isThing := goodIn_r _ [6, 7, 8, 9, 10, 11] (by decide +kernel) (by decide +kernel)
set_option maxRecDepth 20000 in
theorem gX2_raiseNumber_X2_isThing : GoodIn wsX2_raiseNumber (wsV RX2 39 RX2 yX2_isThing wsX2_isThing) := goodIn_app (goodIn_of _ (by decide +kernel)) ggX2_raiseNumber_X2_isThing
theorem dX2_raiseNumber_0 : decode cX2_raiseNumber 0 = .ok (.aload_n 0, 1) := by decide +kernel
theorem dX2_raiseNumber_1 : decode cX2_raiseNumber 1 = .ok (.iload_n 1, 1) := by decide +kernel
theorem dX2_raiseNumber_2 : decode cX2_raiseNumber 2 = .ok (.invokevirtual 39, 3) := by decide +kernel
theorem dX2_raiseNumber_5 : decode cX2_raiseNumber 5 = .ok (.ifCond .eq 13, 3) := by decide +kernel
theorem dX2_raiseNumber_8 : decode cX2_raiseNumber 8 = .ok (.aload_n 0, 1) := by decide +kernel
theorem dX2_raiseNumber_9 : decode cX2_raiseNumber 9 = .ok (.getfield 21, 3) := by decide +kernel
theorem dX2_raiseNumber_12 : decode cX2_raiseNumber 12 = .ok (.iload_n 1, 1) := by decide +kernel
theorem dX2_raiseNumber_13 : decode cX2_raiseNumber 13 = .ok (.dup2, 1) := by decide +kernel
theorem dX2_raiseNumber_14 : decode cX2_raiseNumber 14 = .ok (.iaload, 1) := by decide +kernel
theorem dX2_raiseNumber_15 : decode cX2_raiseNumber 15 = .ok (.iload_n 2, 1) := by decide +kernel
theorem dX2_raiseNumber_16 : decode cX2_raiseNumber 16 = .ok (.iadd, 1) := by decide +kernel
theorem dX2_raiseNumber_17 : decode cX2_raiseNumber 17 = .ok (.iastore, 1) := by decide +kernel
theorem dX2_raiseNumber_18 : decode cX2_raiseNumber 18 = .ok (.return_, 1) := by decide +kernel
set_option maxRecDepth 20000 in
theorem ggX2_isHeld_X2_isThing : GoodIn wsX2_isHeld wsX2_isThing := goodIn_r _ [6, 7, 8, 9, 10, 11] (by decide +kernel) (by decide +kernel)
set_option maxRecDepth 20000 in
theorem gX2_isHeld_X2_isThing : GoodIn wsX2_isHeld (wsV RX2 39 RX2 yX2_isThing wsX2_isThing) := goodIn_app (goodIn_of _ (by decide +kernel)) ggX2_isHeld_X2_isThing
theorem dX2_isHeld_0 : decode cX2_isHeld 0 = .ok (.aload_n 0, 1) := by decide +kernel
theorem dX2_isHeld_1 : decode cX2_isHeld 1 = .ok (.iload_n 1, 1) := by decide +kernel
theorem dX2_isHeld_2 : decode cX2_isHeld 2 = .ok (.invokevirtual 39, 3) := by decide +kernel
theorem dX2_isHeld_5 : decode cX2_isHeld 5 = .ok (.ifCond .eq 16, 3) := by decide +kernel
theorem dX2_isHeld_8 : decode cX2_isHeld 8 = .ok (.aload_n 0, 1) := by decide +kernel
theorem dX2_isHeld_9 : decode cX2_isHeld 9 = .ok (.getfield 24, 3) := by decide +kernel
theorem dX2_isHeld_12 : decode cX2_isHeld 12 = .ok (.iload_n 1, 1) := by decide +kernel
theorem dX2_isHeld_13 : decode cX2_isHeld 13 = .ok (.iaload, 1) := by decide +kernel
theorem dX2_isHeld_14 : decode cX2_isHeld 14 = .ok (.ifCond .le 7, 3) := by decide +kernel
theorem dX2_isHeld_17 : decode cX2_isHeld 17 = .ok (.iconst 1, 1) := by decide +kernel
theorem dX2_isHeld_18 : decode cX2_isHeld 18 = .ok (.goto 4, 3) := by decide +kernel
theorem dX2_isHeld_21 : decode cX2_isHeld 21 = .ok (.iconst 0, 1) := by decide +kernel
theorem dX2_isHeld_22 : decode cX2_isHeld 22 = .ok (.ireturn, 1) := by decide +kernel
set_option maxRecDepth 20000 in
theorem ggX2_deepen_X2_isThing : GoodIn wsX2_deepen wsX2_isThing := goodIn_r _ [6, 7, 8, 9, 10, 11] (by decide +kernel) (by decide +kernel)
set_option maxRecDepth 20000 in
theorem gX2_deepen_X2_isThing : GoodIn wsX2_deepen (wsV RX2 39 RX2 yX2_isThing wsX2_isThing) := goodIn_app (goodIn_of _ (by decide +kernel)) ggX2_deepen_X2_isThing
theorem dX2_deepen_0 : decode cX2_deepen 0 = .ok (.aload_n 0, 1) := by decide +kernel
theorem dX2_deepen_1 : decode cX2_deepen 1 = .ok (.iload_n 1, 1) := by decide +kernel
theorem dX2_deepen_2 : decode cX2_deepen 2 = .ok (.invokevirtual 39, 3) := by decide +kernel
theorem dX2_deepen_5 : decode cX2_deepen 5 = .ok (.ifCond .eq 13, 3) := by decide +kernel
theorem dX2_deepen_8 : decode cX2_deepen 8 = .ok (.aload_n 0, 1) := by decide +kernel
theorem dX2_deepen_9 : decode cX2_deepen 9 = .ok (.getfield 24, 3) := by decide +kernel
theorem dX2_deepen_12 : decode cX2_deepen 12 = .ok (.iload_n 1, 1) := by decide +kernel
theorem dX2_deepen_13 : decode cX2_deepen 13 = .ok (.dup2, 1) := by decide +kernel
theorem dX2_deepen_14 : decode cX2_deepen 14 = .ok (.iaload, 1) := by decide +kernel
theorem dX2_deepen_15 : decode cX2_deepen 15 = .ok (.iload_n 2, 1) := by decide +kernel
theorem dX2_deepen_16 : decode cX2_deepen 16 = .ok (.iadd, 1) := by decide +kernel
theorem dX2_deepen_17 : decode cX2_deepen 17 = .ok (.iastore, 1) := by decide +kernel
theorem dX2_deepen_18 : decode cX2_deepen 18 = .ok (.return_, 1) := by decide +kernel
set_option maxRecDepth 20000 in
theorem ggX3_init_X3_restart : GoodIn wsX3_init wsX3_restart := goodIn_r _ [10, 11, 12, 13, 14, 15, 16, 17, 18, 19, 20, 21, 22, 23] (by decide +kernel) (by decide +kernel)
set_option maxRecDepth 20000 in
theorem gX3_init_X3_restart : GoodIn wsX3_init (wsV RX3 15 RX3 yX3_restart wsX3_restart) := goodIn_app (goodIn_of _ (by decide +kernel)) ggX3_init_X3_restart
theorem dX3_init_0 : decode cX3_init 0 = .ok (.aload_n 0, 1) := by decide +kernel
theorem dX3_init_1 : decode cX3_init 1 = .ok (.invokespecial 3, 3) := by decide +kernel
theorem dX3_init_4 : decode cX3_init 4 = .ok (.aload_n 0, 1) := by decide +kernel
theorem dX3_init_5 : decode cX3_init 5 = .ok (.sipush 250, 3) := by decide +kernel
theorem dX3_init_8 : decode cX3_init 8 = .ok (.newarray .int, 2) := by decide +kernel
theorem dX3_init_10 : decode cX3_init 10 = .ok (.putfield 9, 3) := by decide +kernel
theorem dX3_init_13 : decode cX3_init 13 = .ok (.aload_n 0, 1) := by decide +kernel
theorem dX3_init_14 : decode cX3_init 14 = .ok (.invokevirtual 15, 3) := by decide +kernel
theorem dX3_init_17 : decode cX3_init 17 = .ok (.return_, 1) := by decide +kernel
theorem dX3_restart_0 : decode cX3_restart 0 = .ok (.aload_n 0, 1) := by decide +kernel
theorem dX3_restart_1 : decode cX3_restart 1 = .ok (.iconst 0, 1) := by decide +kernel
theorem dX3_restart_2 : decode cX3_restart 2 = .ok (.putfield 18, 3) := by decide +kernel
theorem dX3_restart_5 : decode cX3_restart 5 = .ok (.aload_n 0, 1) := by decide +kernel
theorem dX3_restart_6 : decode cX3_restart 6 = .ok (.iconst 0, 1) := by decide +kernel
theorem dX3_restart_7 : decode cX3_restart 7 = .ok (.putfield 22, 3) := by decide +kernel
theorem dX3_restart_10 : decode cX3_restart 10 = .ok (.aload_n 0, 1) := by decide +kernel
theorem dX3_restart_11 : decode cX3_restart 11 = .ok (.iconst 0, 1) := by decide +kernel
theorem dX3_restart_12 : decode cX3_restart 12 = .ok (.putfield 25, 3) := by decide +kernel
theorem dX3_restart_15 : decode cX3_restart 15 = .ok (.aload_n 0, 1) := by decide +kernel
theorem dX3_restart_16 : decode cX3_restart 16 = .ok (.iconst 0, 1) := by decide +kernel
theorem dX3_restart_17 : decode cX3_restart 17 = .ok (.putfield 28, 3) := by decide +kernel
theorem dX3_restart_20 : decode cX3_restart 20 = .ok (.aload_n 0, 1) := by decide +kernel
theorem dX3_restart_21 : decode cX3_restart 21 = .ok (.iconst 0, 1) := by decide +kernel
theorem dX3_restart_22 : decode cX3_restart 22 = .ok (.putfield 31, 3) := by decide +kernel
theorem dX3_restart_25 : decode cX3_restart 25 = .ok (.aload_n 0, 1) := by decide +kernel
theorem dX3_restart_26 : decode cX3_restart 26 = .ok (.iconst 0, 1) := by decide +kernel
theorem dX3_restart_27 : decode cX3_restart 27 = .ok (.putfield 34, 3) := by decide +kernel
theorem dX3_restart_30 : decode cX3_restart 30 = .ok (.return_, 1) := by decide +kernel
set_option maxRecDepth 20000 in
theorem ggX3_entry_X4_isWithin : GoodIn wsX3_entry wsX4_isWithin := goodIn_r _ [9] (by decide +kernel) (by decide +kernel)
set_option maxRecDepth 20000 in
theorem gX3_entry_X4_isWithin_n43 : GoodIn wsX3_entry (wsX4_isWithin) := ggX3_entry_X4_isWithin
theorem dX3_entry_0 : decode cX3_entry 0 = .ok (.iload_n 1, 1) := by decide +kernel
theorem dX3_entry_1 : decode cX3_entry 1 = .ok (.iconst 0, 1) := by decide +kernel
theorem dX3_entry_2 : decode cX3_entry 2 = .ok (.aload_n 0, 1) := by decide +kernel
theorem dX3_entry_3 : decode cX3_entry 3 = .ok (.getfield 18, 3) := by decide +kernel
theorem dX3_entry_6 : decode cX3_entry 6 = .ok (.sipush 250, 3) := by decide +kernel
theorem dX3_entry_9 : decode cX3_entry 9 = .ok (.invokestatic 37, 3) := by decide +kernel
theorem dX3_entry_12 : decode cX3_entry 12 = .ok (.iconst 1, 1) := by decide +kernel
theorem dX3_entry_13 : decode cX3_entry 13 = .ok (.isub, 1) := by decide +kernel
theorem dX3_entry_14 : decode cX3_entry 14 = .ok (.invokestatic 43, 3) := by decide +kernel
theorem dX3_entry_17 : decode cX3_entry 17 = .ok (.ifCond .eq 12, 3) := by decide +kernel
theorem dX3_entry_20 : decode cX3_entry 20 = .ok (.aload_n 0, 1) := by decide +kernel
theorem dX3_entry_21 : decode cX3_entry 21 = .ok (.getfield 9, 3) := by decide +kernel
theorem dX3_entry_24 : decode cX3_entry 24 = .ok (.iload_n 1, 1) := by decide +kernel
theorem dX3_entry_25 : decode cX3_entry 25 = .ok (.iaload, 1) := by decide +kernel
theorem dX3_entry_26 : decode cX3_entry 26 = .ok (.goto 4, 3) := by decide +kernel
theorem dX3_entry_29 : decode cX3_entry 29 = .ok (.iconst (-1), 1) := by decide +kernel
theorem dX3_entry_30 : decode cX3_entry 30 = .ok (.ireturn, 1) := by decide +kernel
theorem dX3_enter_0 : decode cX3_enter 0 = .ok (.aload_n 0, 1) := by decide +kernel
theorem dX3_enter_1 : decode cX3_enter 1 = .ok (.getfield 18, 3) := by decide +kernel
theorem dX3_enter_4 : decode cX3_enter 4 = .ok (.sipush 250, 3) := by decide +kernel
theorem dX3_enter_7 : decode cX3_enter 7 = .ok (.if_icmp .ge 13, 3) := by decide +kernel
theorem dX3_enter_10 : decode cX3_enter 10 = .ok (.aload_n 0, 1) := by decide +kernel
theorem dX3_enter_11 : decode cX3_enter 11 = .ok (.getfield 9, 3) := by decide +kernel
theorem dX3_enter_14 : decode cX3_enter 14 = .ok (.aload_n 0, 1) := by decide +kernel
theorem dX3_enter_15 : decode cX3_enter 15 = .ok (.getfield 18, 3) := by decide +kernel
theorem dX3_enter_18 : decode cX3_enter 18 = .ok (.iload_n 1, 1) := by decide +kernel
theorem dX3_enter_19 : decode cX3_enter 19 = .ok (.iastore, 1) := by decide +kernel
theorem dX3_enter_20 : decode cX3_enter 20 = .ok (.aload_n 0, 1) := by decide +kernel
theorem dX3_enter_21 : decode cX3_enter 21 = .ok (.dup, 1) := by decide +kernel
theorem dX3_enter_22 : decode cX3_enter 22 = .ok (.getfield 18, 3) := by decide +kernel
theorem dX3_enter_25 : decode cX3_enter 25 = .ok (.iconst 1, 1) := by decide +kernel
theorem dX3_enter_26 : decode cX3_enter 26 = .ok (.iadd, 1) := by decide +kernel
theorem dX3_enter_27 : decode cX3_enter 27 = .ok (.putfield 18, 3) := by decide +kernel
theorem dX3_enter_30 : decode cX3_enter 30 = .ok (.return_, 1) := by decide +kernel
set_option maxRecDepth 20000 in
theorem ggX3_enterMark_X3_enter : GoodIn wsX3_enterMark wsX3_enter := goodIn_r _ [5, 6, 7, 8, 9, 10, 11, 12, 13, 14] (by decide +kernel) (by decide +kernel)
set_option maxRecDepth 20000 in
theorem gX3_enterMark_X3_enter : GoodIn wsX3_enterMark (wsV RX3 47 RX3 yX3_enter wsX3_enter) := goodIn_app (goodIn_of _ (by decide +kernel)) ggX3_enterMark_X3_enter
theorem dX3_enterMark_0 : decode cX3_enterMark 0 = .ok (.aload_n 0, 1) := by decide +kernel
theorem dX3_enterMark_1 : decode cX3_enterMark 1 = .ok (.sipush 10000, 3) := by decide +kernel
theorem dX3_enterMark_4 : decode cX3_enterMark 4 = .ok (.iload_n 1, 1) := by decide +kernel
theorem dX3_enterMark_5 : decode cX3_enterMark 5 = .ok (.iadd, 1) := by decide +kernel
theorem dX3_enterMark_6 : decode cX3_enterMark 6 = .ok (.invokevirtual 47, 3) := by decide +kernel
theorem dX3_enterMark_9 : decode cX3_enterMark 9 = .ok (.return_, 1) := by decide +kernel
set_option maxRecDepth 20000 in
theorem ggX3_enterBegun_X3_enter : GoodIn wsX3_enterBegun wsX3_enter := goodIn_r _ [12, 13, 14, 15, 16, 17, 18, 19, 20, 21] (by decide +kernel) (by decide +kernel)
set_option maxRecDepth 20000 in
theorem gX3_enterBegun_X3_enter : GoodIn wsX3_enterBegun (wsV RX3 47 RX3 yX3_enter wsX3_enter) := goodIn_app (goodIn_of _ (by decide +kernel)) ggX3_enterBegun_X3_enter
theorem dX3_enterBegun_0 : decode cX3_enterBegun 0 = .ok (.aload_n 0, 1) := by decide +kernel
theorem dX3_enterBegun_1 : decode cX3_enterBegun 1 = .ok (.dup, 1) := by decide +kernel
theorem dX3_enterBegun_2 : decode cX3_enterBegun 2 = .ok (.getfield 25, 3) := by decide +kernel
theorem dX3_enterBegun_5 : decode cX3_enterBegun 5 = .ok (.iconst 1, 1) := by decide +kernel
theorem dX3_enterBegun_6 : decode cX3_enterBegun 6 = .ok (.iadd, 1) := by decide +kernel
theorem dX3_enterBegun_7 : decode cX3_enterBegun 7 = .ok (.putfield 25, 3) := by decide +kernel
theorem dX3_enterBegun_10 : decode cX3_enterBegun 10 = .ok (.aload_n 0, 1) := by decide +kernel
theorem dX3_enterBegun_11 : decode cX3_enterBegun 11 = .ok (.dup, 1) := by decide +kernel
theorem dX3_enterBegun_12 : decode cX3_enterBegun 12 = .ok (.getfield 28, 3) := by decide +kernel
theorem dX3_enterBegun_15 : decode cX3_enterBegun 15 = .ok (.iconst 1, 1) := by decide +kernel
theorem dX3_enterBegun_16 : decode cX3_enterBegun 16 = .ok (.iadd, 1) := by decide +kernel
theorem dX3_enterBegun_17 : decode cX3_enterBegun 17 = .ok (.putfield 28, 3) := by decide +kernel
theorem dX3_enterBegun_20 : decode cX3_enterBegun 20 = .ok (.aload_n 0, 1) := by decide +kernel
theorem dX3_enterBegun_21 : decode cX3_enterBegun 21 = .ok (.aload_n 0, 1) := by decide +kernel
theorem dX3_enterBegun_22 : decode cX3_enterBegun 22 = .ok (.getfield 31, 3) := by decide +kernel
theorem dX3_enterBegun_25 : decode cX3_enterBegun 25 = .ok (.aload_n 0, 1) := by decide +kernel
theorem dX3_enterBegun_26 : decode cX3_enterBegun 26 = .ok (.getfield 28, 3) := by decide +kernel
theorem dX3_enterBegun_29 : decode cX3_enterBegun 29 = .ok (.invokestatic 51, 3) := by decide +kernel
theorem dX3_enterBegun_32 : decode cX3_enterBegun 32 = .ok (.putfield 31, 3) := by decide +kernel
theorem dX3_enterBegun_35 : decode cX3_enterBegun 35 = .ok (.aload_n 0, 1) := by decide +kernel
theorem dX3_enterBegun_36 : decode cX3_enterBegun 36 = .ok (.sipush 1000, 3) := by decide +kernel
theorem dX3_enterBegun_39 : decode cX3_enterBegun 39 = .ok (.iload_n 1, 1) := by decide +kernel
theorem dX3_enterBegun_40 : decode cX3_enterBegun 40 = .ok (.iadd, 1) := by decide +kernel
theorem dX3_enterBegun_41 : decode cX3_enterBegun 41 = .ok (.invokevirtual 47, 3) := by decide +kernel
theorem dX3_enterBegun_44 : decode cX3_enterBegun 44 = .ok (.return_, 1) := by decide +kernel
set_option maxRecDepth 20000 in
theorem ggX3_enterLeft_X3_enter : GoodIn wsX3_enterLeft wsX3_enter := goodIn_r _ [7, 8, 9, 10, 11, 12, 13, 14, 15, 16] (by decide +kernel) (by decide +kernel)
set_option maxRecDepth 20000 in
theorem gX3_enterLeft_X3_enter : GoodIn wsX3_enterLeft (wsV RX3 47 RX3 yX3_enter wsX3_enter) := goodIn_app (goodIn_of _ (by decide +kernel)) ggX3_enterLeft_X3_enter
theorem dX3_enterLeft_0 : decode cX3_enterLeft 0 = .ok (.aload_n 0, 1) := by decide +kernel
theorem dX3_enterLeft_1 : decode cX3_enterLeft 1 = .ok (.dup, 1) := by decide +kernel
theorem dX3_enterLeft_2 : decode cX3_enterLeft 2 = .ok (.getfield 28, 3) := by decide +kernel
theorem dX3_enterLeft_5 : decode cX3_enterLeft 5 = .ok (.iconst 1, 1) := by decide +kernel
theorem dX3_enterLeft_6 : decode cX3_enterLeft 6 = .ok (.isub, 1) := by decide +kernel
theorem dX3_enterLeft_7 : decode cX3_enterLeft 7 = .ok (.putfield 28, 3) := by decide +kernel
theorem dX3_enterLeft_10 : decode cX3_enterLeft 10 = .ok (.iload_n 2, 1) := by decide +kernel
theorem dX3_enterLeft_11 : decode cX3_enterLeft 11 = .ok (.iconst 4, 1) := by decide +kernel
theorem dX3_enterLeft_12 : decode cX3_enterLeft 12 = .ok (.if_icmp .eq 8, 3) := by decide +kernel
theorem dX3_enterLeft_15 : decode cX3_enterLeft 15 = .ok (.iload_n 2, 1) := by decide +kernel
theorem dX3_enterLeft_16 : decode cX3_enterLeft 16 = .ok (.iconst 5, 1) := by decide +kernel
theorem dX3_enterLeft_17 : decode cX3_enterLeft 17 = .ok (.if_icmp .ne 13, 3) := by decide +kernel
theorem dX3_enterLeft_20 : decode cX3_enterLeft 20 = .ok (.aload_n 0, 1) := by decide +kernel
theorem dX3_enterLeft_21 : decode cX3_enterLeft 21 = .ok (.dup, 1) := by decide +kernel
theorem dX3_enterLeft_22 : decode cX3_enterLeft 22 = .ok (.getfield 34, 3) := by decide +kernel
theorem dX3_enterLeft_25 : decode cX3_enterLeft 25 = .ok (.iconst 1, 1) := by decide +kernel
theorem dX3_enterLeft_26 : decode cX3_enterLeft 26 = .ok (.iadd, 1) := by decide +kernel
theorem dX3_enterLeft_27 : decode cX3_enterLeft 27 = .ok (.putfield 34, 3) := by decide +kernel
theorem dX3_enterLeft_30 : decode cX3_enterLeft 30 = .ok (.aload_n 0, 1) := by decide +kernel
theorem dX3_enterLeft_31 : decode cX3_enterLeft 31 = .ok (.sipush 2000, 3) := by decide +kernel
theorem dX3_enterLeft_34 : decode cX3_enterLeft 34 = .ok (.bipush 100, 2) := by decide +kernel
theorem dX3_enterLeft_36 : decode cX3_enterLeft 36 = .ok (.iload_n 2, 1) := by decide +kernel
theorem dX3_enterLeft_37 : decode cX3_enterLeft 37 = .ok (.imul, 1) := by decide +kernel
theorem dX3_enterLeft_38 : decode cX3_enterLeft 38 = .ok (.iadd, 1) := by decide +kernel
theorem dX3_enterLeft_39 : decode cX3_enterLeft 39 = .ok (.iload_n 1, 1) := by decide +kernel
theorem dX3_enterLeft_40 : decode cX3_enterLeft 40 = .ok (.iadd, 1) := by decide +kernel
theorem dX3_enterLeft_41 : decode cX3_enterLeft 41 = .ok (.invokevirtual 47, 3) := by decide +kernel
theorem dX3_enterLeft_44 : decode cX3_enterLeft 44 = .ok (.return_, 1) := by decide +kernel
set_option maxRecDepth 20000 in
theorem ggX4_init_X2_init : GoodIn wsX4_init wsX2_init := goodIn_r _ [22, 23, 2, 3, 24, 25, 26, 27, 28, 29, 30, 31, 32, 63, 64, 65, 66] (by decide +kernel) (by decide +kernel)
set_option maxRecDepth 20000 in
theorem gX4_init_X2_init_n9 : GoodIn wsX4_init (wsX2_init) := ggX4_init_X2_init
set_option maxRecDepth 20000 in
theorem ggX4_init_X0_init : GoodIn wsX4_init wsX0_init := goodIn_r _ [34, 35, 2, 3, 24, 36, 37, 38, 39, 40, 41, 72, 73, 74, 75, 76, 77] (by decide +kernel) (by decide +kernel)
set_option maxRecDepth 20000 in
theorem gX4_init_X0_init_n18 : GoodIn wsX4_init (wsX0_init) := ggX4_init_X0_init
set_option maxRecDepth 20000 in
theorem ggX4_init_X3_init : GoodIn wsX4_init wsX3_init := goodIn_r _ [43, 44, 2, 3, 24, 45, 46, 47, 48, 14, 49, 50, 51, 52, 53, 54, 55, 78, 79, 80, 81, 82, 83, 84] (by decide +kernel) (by decide +kernel)
set_option maxRecDepth 20000 in
theorem gX4_init_X3_init_n25 : GoodIn wsX4_init (wsX3_init) := ggX4_init_X3_init
set_option maxRecDepth 20000 in
theorem ggX4_init_X1_init : GoodIn wsX4_init wsX1_init := goodIn_r _ [57, 58, 2, 3, 59, 60, 61, 62, 85, 86, 87, 88] (by decide +kernel) (by decide +kernel)
set_option maxRecDepth 20000 in
theorem gX4_init_X1_init_n32 : GoodIn wsX4_init (wsX1_init) := ggX4_init_X1_init
theorem dX4_init_0 : decode cX4_init 0 = .ok (.aload_n 0, 1) := by decide +kernel
theorem dX4_init_1 : decode cX4_init 1 = .ok (.invokespecial 1, 3) := by decide +kernel
theorem dX4_init_4 : decode cX4_init 4 = .ok (.aload_n 0, 1) := by decide +kernel
theorem dX4_init_5 : decode cX4_init 5 = .ok (.new 7, 3) := by decide +kernel
theorem dX4_init_8 : decode cX4_init 8 = .ok (.dup, 1) := by decide +kernel
theorem dX4_init_9 : decode cX4_init 9 = .ok (.invokespecial 9, 3) := by decide +kernel
theorem dX4_init_12 : decode cX4_init 12 = .ok (.putfield 10, 3) := by decide +kernel
theorem dX4_init_15 : decode cX4_init 15 = .ok (.aload_n 0, 1) := by decide +kernel
theorem dX4_init_16 : decode cX4_init 16 = .ok (.new 16, 3) := by decide +kernel
theorem dX4_init_19 : decode cX4_init 19 = .ok (.dup, 1) := by decide +kernel
theorem dX4_init_20 : decode cX4_init 20 = .ok (.invokespecial 18, 3) := by decide +kernel
theorem dX4_init_23 : decode cX4_init 23 = .ok (.putfield 19, 3) := by decide +kernel
theorem dX4_init_26 : decode cX4_init 26 = .ok (.aload_n 0, 1) := by decide +kernel
theorem dX4_init_27 : decode cX4_init 27 = .ok (.new 23, 3) := by decide +kernel
theorem dX4_init_30 : decode cX4_init 30 = .ok (.dup, 1) := by decide +kernel
theorem dX4_init_31 : decode cX4_init 31 = .ok (.invokespecial 25, 3) := by decide +kernel
theorem dX4_init_34 : decode cX4_init 34 = .ok (.putfield 26, 3) := by decide +kernel
theorem dX4_init_37 : decode cX4_init 37 = .ok (.aload_n 0, 1) := by decide +kernel
theorem dX4_init_38 : decode cX4_init 38 = .ok (.new 30, 3) := by decide +kernel
theorem dX4_init_41 : decode cX4_init 41 = .ok (.dup, 1) := by decide +kernel
theorem dX4_init_42 : decode cX4_init 42 = .ok (.aload_n 0, 1) := by decide +kernel
theorem dX4_init_43 : decode cX4_init 43 = .ok (.getfield 10, 3) := by decide +kernel
theorem dX4_init_46 : decode cX4_init 46 = .ok (.aload_n 0, 1) := by decide +kernel
theorem dX4_init_47 : decode cX4_init 47 = .ok (.getfield 19, 3) := by decide +kernel
theorem dX4_init_50 : decode cX4_init 50 = .ok (.aload_n 0, 1) := by decide +kernel
theorem dX4_init_51 : decode cX4_init 51 = .ok (.getfield 26, 3) := by decide +kernel
theorem dX4_init_54 : decode cX4_init 54 = .ok (.invokespecial 32, 3) := by decide +kernel
theorem dX4_init_57 : decode cX4_init 57 = .ok (.putfield 35, 3) := by decide +kernel
theorem dX4_init_60 : decode cX4_init 60 = .ok (.aload_n 0, 1) := by decide +kernel
theorem dX4_init_61 : decode cX4_init 61 = .ok (.iconst 0, 1) := by decide +kernel
theorem dX4_init_62 : decode cX4_init 62 = .ok (.putfield 39, 3) := by decide +kernel
theorem dX4_init_65 : decode cX4_init 65 = .ok (.return_, 1) := by decide +kernel
set_option maxRecDepth 20000 in
theorem ggX4_thing_X4_isPlace : GoodIn wsX4_thing wsX4_isPlace := goodIn_r _ [5, 6, 7, 4, 8] (by decide +kernel) (by decide +kernel)
set_option maxRecDepth 20000 in
theorem gX4_thing_X4_isPlace : GoodIn wsX4_thing (va_wsS RX4 43 yX4_isPlace wsX4_isPlace) := goodIn_app (goodIn_of _ (by decide +kernel)) ggX4_thing_X4_isPlace
set_option maxRecDepth 20000 in
theorem ggX4_thing_X2_makeThing : GoodIn wsX4_thing wsX2_makeThing := goodIn_r _ [12, 13, 14, 15, 16, 10, 17, 18, 3, 4, 5, 6, 7, 8, 24, 25, 26, 27] (by decide +kernel) (by decide +kernel)
set_option maxRecDepth 20000 in
theorem gX4_thing_X2_makeThing_n47 : GoodIn wsX4_thing (wsX2_makeThing) := ggX4_thing_X2_makeThing
theorem dX4_thing_0 : decode cX4_thing 0 = .ok (.iload_n 1, 1) := by decide +kernel
theorem dX4_thing_1 : decode cX4_thing 1 = .ok (.invokestatic 43, 3) := by decide +kernel
theorem dX4_thing_4 : decode cX4_thing 4 = .ok (.ifCond .eq 14, 3) := by decide +kernel
theorem dX4_thing_7 : decode cX4_thing 7 = .ok (.aload_n 0, 1) := by decide +kernel
theorem dX4_thing_8 : decode cX4_thing 8 = .ok (.getfield 10, 3) := by decide +kernel
theorem dX4_thing_11 : decode cX4_thing 11 = .ok (.iload_n 1, 1) := by decide +kernel
theorem dX4_thing_12 : decode cX4_thing 12 = .ok (.invokevirtual 47, 3) := by decide +kernel
theorem dX4_thing_15 : decode cX4_thing 15 = .ok (.goto 5, 3) := by decide +kernel
theorem dX4_thing_18 : decode cX4_thing 18 = .ok (.bipush (-2), 2) := by decide +kernel
theorem dX4_thing_20 : decode cX4_thing 20 = .ok (.ireturn, 1) := by decide +kernel
set_option maxRecDepth 20000 in
theorem ggX4_set_X4_isPlace : GoodIn wsX4_set wsX4_isPlace := goodIn_r _ [5, 6, 7, 4, 8] (by decide +kernel) (by decide +kernel)
set_option maxRecDepth 20000 in
theorem gX4_set_X4_isPlace : GoodIn wsX4_set (va_wsS RX4 43 yX4_isPlace wsX4_isPlace) := goodIn_app (goodIn_of _ (by decide +kernel)) ggX4_set_X4_isPlace
set_option maxRecDepth 20000 in
theorem ggX4_set_X2_thingIn : GoodIn wsX4_set wsX2_thingIn := goodIn_r _ [12, 13, 3, 4, 5, 6, 7, 8, 22, 23, 24, 25] (by decide +kernel) (by decide +kernel)
set_option maxRecDepth 20000 in
theorem gX4_set_X2_thingIn_n51 : GoodIn wsX4_set (wsX2_thingIn) := ggX4_set_X2_thingIn
set_option maxRecDepth 20000 in
theorem ggX4_set_X2_put : GoodIn wsX4_set wsX2_put := goodIn_r _ [16, 13, 3, 4, 5, 6, 7, 8, 22, 23, 24, 25] (by decide +kernel) (by decide +kernel)
set_option maxRecDepth 20000 in
theorem gX4_set_X2_put_n54 : GoodIn wsX4_set (wsX2_put) := ggX4_set_X2_put
theorem dX4_set_0 : decode cX4_set 0 = .ok (.iload_n 1, 1) := by decide +kernel
theorem dX4_set_1 : decode cX4_set 1 = .ok (.invokestatic 43, 3) := by decide +kernel
theorem dX4_set_4 : decode cX4_set 4 = .ok (.ifCond .eq 15, 3) := by decide +kernel
theorem dX4_set_7 : decode cX4_set 7 = .ok (.iload_n 2, 1) := by decide +kernel
theorem dX4_set_8 : decode cX4_set 8 = .ok (.iconst (-1), 1) := by decide +kernel
theorem dX4_set_9 : decode cX4_set 9 = .ok (.if_icmp .eq 13, 3) := by decide +kernel
theorem dX4_set_12 : decode cX4_set 12 = .ok (.iload_n 2, 1) := by decide +kernel
theorem dX4_set_13 : decode cX4_set 13 = .ok (.invokestatic 43, 3) := by decide +kernel
theorem dX4_set_16 : decode cX4_set 16 = .ok (.ifCond .ne 6, 3) := by decide +kernel
theorem dX4_set_19 : decode cX4_set 19 = .ok (.bipush (-2), 2) := by decide +kernel
theorem dX4_set_21 : decode cX4_set 21 = .ok (.ireturn, 1) := by decide +kernel
theorem dX4_set_22 : decode cX4_set 22 = .ok (.aload_n 0, 1) := by decide +kernel
theorem dX4_set_23 : decode cX4_set 23 = .ok (.getfield 10, 3) := by decide +kernel
theorem dX4_set_26 : decode cX4_set 26 = .ok (.iload_n 2, 1) := by decide +kernel
theorem dX4_set_27 : decode cX4_set 27 = .ok (.invokevirtual 51, 3) := by decide +kernel
theorem dX4_set_30 : decode cX4_set 30 = .ok (.istore_n 3, 1) := by decide +kernel
theorem dX4_set_31 : decode cX4_set 31 = .ok (.aload_n 0, 1) := by decide +kernel
theorem dX4_set_32 : decode cX4_set 32 = .ok (.getfield 10, 3) := by decide +kernel
theorem dX4_set_35 : decode cX4_set 35 = .ok (.iload_n 1, 1) := by decide +kernel
theorem dX4_set_36 : decode cX4_set 36 = .ok (.iload_n 3, 1) := by decide +kernel
theorem dX4_set_37 : decode cX4_set 37 = .ok (.invokevirtual 54, 3) := by decide +kernel
theorem dX4_set_40 : decode cX4_set 40 = .ok (.iload_n 3, 1) := by decide +kernel
theorem dX4_set_41 : decode cX4_set 41 = .ok (.ireturn, 1) := by decide +kernel
set_option maxRecDepth 20000 in
theorem ggX4_step_X4_isStep : GoodIn wsX4_step wsX4_isStep := goodIn_r _ [5, 6, 7, 4, 8, 9, 10, 11, 12, 13, 14, 15, 16, 17] (by decide +kernel) (by decide +kernel)
set_option maxRecDepth 20000 in
theorem gX4_step_X4_isStep : GoodIn wsX4_step (va_wsS RX4 58 yX4_isStep wsX4_isStep) := goodIn_app (goodIn_of _ (by decide +kernel)) ggX4_step_X4_isStep
set_option maxRecDepth 20000 in
theorem ggX4_step_X0_append : GoodIn wsX4_step wsX0_append := goodIn_r _ [21, 22, 23, 24, 25, 26, 27, 7, 4, 8, 9, 10, 11, 33, 34, 35, 36, 37, 38] (by decide +kernel) (by decide +kernel)
set_option maxRecDepth 20000 in
theorem gX4_step_X0_append_n62 : GoodIn wsX4_step (wsX0_append) := ggX4_step_X0_append
theorem dX4_step_0 : decode cX4_step 0 = .ok (.iload_n 1, 1) := by decide +kernel
theorem dX4_step_1 : decode cX4_step 1 = .ok (.iload_n 2, 1) := by decide +kernel
theorem dX4_step_2 : decode cX4_step 2 = .ok (.iload_n 3, 1) := by decide +kernel
theorem dX4_step_3 : decode cX4_step 3 = .ok (.iload 4, 2) := by decide +kernel
theorem dX4_step_5 : decode cX4_step 5 = .ok (.iload 5, 2) := by decide +kernel
theorem dX4_step_7 : decode cX4_step 7 = .ok (.invokestatic 58, 3) := by decide +kernel
theorem dX4_step_10 : decode cX4_step 10 = .ok (.ifCond .eq 20, 3) := by decide +kernel
theorem dX4_step_13 : decode cX4_step 13 = .ok (.aload_n 0, 1) := by decide +kernel
theorem dX4_step_14 : decode cX4_step 14 = .ok (.getfield 19, 3) := by decide +kernel
theorem dX4_step_17 : decode cX4_step 17 = .ok (.iload_n 1, 1) := by decide +kernel
theorem dX4_step_18 : decode cX4_step 18 = .ok (.iload_n 2, 1) := by decide +kernel
theorem dX4_step_19 : decode cX4_step 19 = .ok (.iload_n 3, 1) := by decide +kernel
theorem dX4_step_20 : decode cX4_step 20 = .ok (.iload 4, 2) := by decide +kernel
theorem dX4_step_22 : decode cX4_step 22 = .ok (.iload 5, 2) := by decide +kernel
theorem dX4_step_24 : decode cX4_step 24 = .ok (.invokevirtual 62, 3) := by decide +kernel
theorem dX4_step_27 : decode cX4_step 27 = .ok (.goto 5, 3) := by decide +kernel
theorem dX4_step_30 : decode cX4_step 30 = .ok (.bipush (-2), 2) := by decide +kernel
theorem dX4_step_32 : decode cX4_step 32 = .ok (.ireturn, 1) := by decide +kernel
set_option maxRecDepth 20000 in
theorem ggX4_clear_X0_empty : GoodIn wsX4_clear wsX0_empty := goodIn_r _ [5, 6, 7, 8, 9, 10, 11, 12, 13, 19, 20, 21, 22, 23, 24] (by decide +kernel) (by decide +kernel)
set_option maxRecDepth 20000 in
theorem gX4_clear_X0_empty_n66 : GoodIn wsX4_clear (wsX0_empty) := ggX4_clear_X0_empty
theorem dX4_clear_0 : decode cX4_clear 0 = .ok (.aload_n 0, 1) := by decide +kernel
theorem dX4_clear_1 : decode cX4_clear 1 = .ok (.getfield 19, 3) := by decide +kernel
theorem dX4_clear_4 : decode cX4_clear 4 = .ok (.iload_n 1, 1) := by decide +kernel
theorem dX4_clear_5 : decode cX4_clear 5 = .ok (.invokevirtual 66, 3) := by decide +kernel
theorem dX4_clear_8 : decode cX4_clear 8 = .ok (.ireturn, 1) := by decide +kernel
set_option maxRecDepth 20000 in
theorem ggX4_run_X3_restart : GoodIn wsX4_run wsX3_restart := goodIn_r _ [7, 8, 9, 10, 11, 12, 13, 139, 140, 141, 142, 143, 144, 145] (by decide +kernel) (by decide +kernel)
set_option maxRecDepth 20000 in
theorem gX4_run_X3_restart_n72 : GoodIn wsX4_run (wsX3_restart) := ggX4_run_X3_restart
set_option maxRecDepth 20000 in
theorem ggX4_run_X1_doBlock : GoodIn wsX4_run wsX1_doBlock := goodIn_r _ [17, 18, 19, 20, 21, 22, 23, 24, 25, 26, 27, 28, 29, 30, 31, 15, 32, 33, 14, 16, 34, 35, 36, 37, 38, 39, 40, 41, 42, 43, 44, 45, 46, 47, 48, 49, 50, 51, 52, 53, 54, 55, 56, 57, 58, 59, 5, 60, 61, 10, 11, 12, 62, 63, 64, 65, 66, 67, 68, 8, 69, 70, 71, 72, 73, 74, 75, 76, 77, 78, 13, 79, 80, 81, 82, 83, 84, 85, 86, 87, 88, 89, 90, 91, 92, 93, 94, 95, 96, 97, 98, 99, 100, 101, 102, 103, 104, 105, 106, 107, 108, 109, 110, 111, 112, 113, 114, 115, 116, 117, 118, 119, 120, 121, 122, 123, 124, 125, 126, 127, 128, 135, 136, 137, 138, 146, 147, 148, 149, 150, 151, 152, 153, 154, 155, 139, 140, 141, 142, 143, 144, 145] (by decide +kernel) (by decide +kernel)
set_option maxRecDepth 20000 in
theorem gX4_run_X1_doBlock_n75 : GoodIn wsX4_run (wsX1_doBlock) := ggX4_run_X1_doBlock
set_option maxRecDepth 20000 in
theorem ggX4_run_X4_isThrown : GoodIn wsX4_run wsX4_isThrown := goodIn_r _ [71] (by decide +kernel) (by decide +kernel)
set_option maxRecDepth 20000 in
theorem gX4_run_X4_isThrown : GoodIn wsX4_run (va_wsS RX4 79 yX4_isThrown wsX4_isThrown) := goodIn_app (goodIn_of _ (by decide +kernel)) ggX4_run_X4_isThrown
theorem dX4_run_0 : decode cX4_run 0 = .ok (.aload_n 0, 1) := by decide +kernel
theorem dX4_run_1 : decode cX4_run 1 = .ok (.getfield 35, 3) := by decide +kernel
theorem dX4_run_4 : decode cX4_run 4 = .ok (.getfield 69, 3) := by decide +kernel
theorem dX4_run_7 : decode cX4_run 7 = .ok (.sipush 1500, 3) := by decide +kernel
theorem dX4_run_10 : decode cX4_run 10 = .ok (.if_icmp .lt 6, 3) := by decide +kernel
theorem dX4_run_13 : decode cX4_run 13 = .ok (.bipush (-3), 2) := by decide +kernel
theorem dX4_run_15 : decode cX4_run 15 = .ok (.ireturn, 1) := by decide +kernel
theorem dX4_run_16 : decode cX4_run 16 = .ok (.aload_n 0, 1) := by decide +kernel
theorem dX4_run_17 : decode cX4_run 17 = .ok (.dup, 1) := by decide +kernel
theorem dX4_run_18 : decode cX4_run 18 = .ok (.getfield 39, 3) := by decide +kernel
theorem dX4_run_21 : decode cX4_run 21 = .ok (.iconst 1, 1) := by decide +kernel
theorem dX4_run_22 : decode cX4_run 22 = .ok (.iadd, 1) := by decide +kernel
theorem dX4_run_23 : decode cX4_run 23 = .ok (.putfield 39, 3) := by decide +kernel
theorem dX4_run_26 : decode cX4_run 26 = .ok (.aload_n 0, 1) := by decide +kernel
theorem dX4_run_27 : decode cX4_run 27 = .ok (.getfield 26, 3) := by decide +kernel
theorem dX4_run_30 : decode cX4_run 30 = .ok (.invokevirtual 72, 3) := by decide +kernel
theorem dX4_run_33 : decode cX4_run 33 = .ok (.aload_n 0, 1) := by decide +kernel
theorem dX4_run_34 : decode cX4_run 34 = .ok (.getfield 35, 3) := by decide +kernel
theorem dX4_run_37 : decode cX4_run 37 = .ok (.iconst 0, 1) := by decide +kernel
theorem dX4_run_38 : decode cX4_run 38 = .ok (.iconst (-1), 1) := by decide +kernel
theorem dX4_run_39 : decode cX4_run 39 = .ok (.iconst 0, 1) := by decide +kernel
theorem dX4_run_40 : decode cX4_run 40 = .ok (.invokevirtual 75, 3) := by decide +kernel
theorem dX4_run_43 : decode cX4_run 43 = .ok (.istore_n 1, 1) := by decide +kernel
theorem dX4_run_44 : decode cX4_run 44 = .ok (.iload_n 1, 1) := by decide +kernel
theorem dX4_run_45 : decode cX4_run 45 = .ok (.iconst 5, 1) := by decide +kernel
theorem dX4_run_46 : decode cX4_run 46 = .ok (.if_icmp .ne 6, 3) := by decide +kernel
theorem dX4_run_49 : decode cX4_run 49 = .ok (.bipush 20, 2) := by decide +kernel
theorem dX4_run_51 : decode cX4_run 51 = .ok (.ireturn, 1) := by decide +kernel
theorem dX4_run_52 : decode cX4_run 52 = .ok (.iload_n 1, 1) := by decide +kernel
theorem dX4_run_53 : decode cX4_run 53 = .ok (.invokestatic 79, 3) := by decide +kernel
theorem dX4_run_56 : decode cX4_run 56 = .ok (.ifCond .eq 10, 3) := by decide +kernel
theorem dX4_run_59 : decode cX4_run 59 = .ok (.iload_n 1, 1) := by decide +kernel
theorem dX4_run_60 : decode cX4_run 60 = .ok (.bipush 100, 2) := by decide +kernel
theorem dX4_run_62 : decode cX4_run 62 = .ok (.isub, 1) := by decide +kernel
theorem dX4_run_63 : decode cX4_run 63 = .ok (.goto 4, 3) := by decide +kernel
theorem dX4_run_66 : decode cX4_run 66 = .ok (.iconst 0, 1) := by decide +kernel
theorem dX4_run_67 : decode cX4_run 67 = .ok (.ireturn, 1) := by decide +kernel
set_option maxRecDepth 20000 in
theorem ggX4_trace_X3_entry : GoodIn wsX4_trace wsX3_entry := goodIn_r _ [5, 6, 7, 8, 9, 10, 11, 12, 13, 14, 20, 21, 22, 23, 24, 25, 26] (by decide +kernel) (by decide +kernel)
set_option maxRecDepth 20000 in
theorem gX4_trace_X3_entry_n82 : GoodIn wsX4_trace (wsX3_entry) := ggX4_trace_X3_entry
theorem dX4_trace_0 : decode cX4_trace 0 = .ok (.aload_n 0, 1) := by decide +kernel
theorem dX4_trace_1 : decode cX4_trace 1 = .ok (.getfield 26, 3) := by decide +kernel
theorem dX4_trace_4 : decode cX4_trace 4 = .ok (.iload_n 1, 1) := by decide +kernel
theorem dX4_trace_5 : decode cX4_trace 5 = .ok (.invokevirtual 82, 3) := by decide +kernel
theorem dX4_trace_8 : decode cX4_trace 8 = .ok (.ireturn, 1) := by decide +kernel
theorem dX4_told_0 : decode cX4_told 0 = .ok (.iload_n 1, 1) := by decide +kernel
theorem dX4_told_1 : decode cX4_told 1 = .ok (.tableswitch 75 0 4 #[35, 43, 51, 59, 67], 35) := by decide +kernel
theorem dX4_told_36 : decode cX4_told 36 = .ok (.aload_n 0, 1) := by decide +kernel
theorem dX4_told_37 : decode cX4_told 37 = .ok (.getfield 26, 3) := by decide +kernel
end
section
theorem dX4_told_40 : decode cX4_told 40 = .ok (.getfield 85, 3) := by decide +kernel
theorem dX4_told_43 : decode cX4_told 43 = .ok (.ireturn, 1) := by decide +kernel
theorem dX4_told_44 : decode cX4_told 44 = .ok (.aload_n 0, 1) := by decide +kernel
theorem dX4_told_45 : decode cX4_told 45 = .ok (.getfield 26, 3) := by decide +kernel
theorem dX4_told_48 : decode cX4_told 48 = .ok (.getfield 88, 3) := by decide +kernel
theorem dX4_told_51 : decode cX4_told 51 = .ok (.ireturn, 1) := by decide +kernel
theorem dX4_told_52 : decode cX4_told 52 = .ok (.aload_n 0, 1) := by decide +kernel
theorem dX4_told_53 : decode cX4_told 53 = .ok (.getfield 26, 3) := by decide +kernel
theorem dX4_told_56 : decode cX4_told 56 = .ok (.getfield 91, 3) := by decide +kernel
theorem dX4_told_59 : decode cX4_told 59 = .ok (.ireturn, 1) := by decide +kernel
theorem dX4_told_60 : decode cX4_told 60 = .ok (.aload_n 0, 1) := by decide +kernel
theorem dX4_told_61 : decode cX4_told 61 = .ok (.getfield 26, 3) := by decide +kernel
theorem dX4_told_64 : decode cX4_told 64 = .ok (.getfield 94, 3) := by decide +kernel
theorem dX4_told_67 : decode cX4_told 67 = .ok (.ireturn, 1) := by decide +kernel
theorem dX4_told_68 : decode cX4_told 68 = .ok (.aload_n 0, 1) := by decide +kernel
theorem dX4_told_69 : decode cX4_told 69 = .ok (.getfield 26, 3) := by decide +kernel
theorem dX4_told_72 : decode cX4_told 72 = .ok (.getfield 97, 3) := by decide +kernel
theorem dX4_told_75 : decode cX4_told 75 = .ok (.ireturn, 1) := by decide +kernel
theorem dX4_told_76 : decode cX4_told 76 = .ok (.bipush (-2), 2) := by decide +kernel
theorem dX4_told_78 : decode cX4_told 78 = .ok (.ireturn, 1) := by decide +kernel
set_option maxRecDepth 20000 in
theorem ggX4_at_X4_isPlace : GoodIn wsX4_at wsX4_isPlace := goodIn_r _ [5, 6, 7, 4, 8] (by decide +kernel) (by decide +kernel)
set_option maxRecDepth 20000 in
theorem gX4_at_X4_isPlace : GoodIn wsX4_at (va_wsS RX4 43 yX4_isPlace wsX4_isPlace) := goodIn_app (goodIn_of _ (by decide +kernel)) ggX4_at_X4_isPlace
set_option maxRecDepth 20000 in
theorem ggX4_at_X2_thingIn : GoodIn wsX4_at wsX2_thingIn := goodIn_r _ [12, 13, 3, 4, 5, 6, 7, 8, 19, 20, 21, 22] (by decide +kernel) (by decide +kernel)
set_option maxRecDepth 20000 in
theorem gX4_at_X2_thingIn_n51 : GoodIn wsX4_at (wsX2_thingIn) := ggX4_at_X2_thingIn
theorem dX4_at_0 : decode cX4_at 0 = .ok (.iload_n 1, 1) := by decide +kernel
theorem dX4_at_1 : decode cX4_at 1 = .ok (.invokestatic 43, 3) := by decide +kernel
theorem dX4_at_4 : decode cX4_at 4 = .ok (.ifCond .eq 14, 3) := by decide +kernel
theorem dX4_at_7 : decode cX4_at 7 = .ok (.aload_n 0, 1) := by decide +kernel
theorem dX4_at_8 : decode cX4_at 8 = .ok (.getfield 10, 3) := by decide +kernel
theorem dX4_at_11 : decode cX4_at 11 = .ok (.iload_n 1, 1) := by decide +kernel
theorem dX4_at_12 : decode cX4_at 12 = .ok (.invokevirtual 51, 3) := by decide +kernel
theorem dX4_at_15 : decode cX4_at 15 = .ok (.goto 5, 3) := by decide +kernel
theorem dX4_at_18 : decode cX4_at 18 = .ok (.bipush (-2), 2) := by decide +kernel
theorem dX4_at_20 : decode cX4_at 20 = .ok (.ireturn, 1) := by decide +kernel
set_option maxRecDepth 20000 in
theorem ggX4_number_X2_numberOf : GoodIn wsX4_number wsX2_numberOf := goodIn_r _ [5, 6, 7, 8, 9, 3, 10, 11, 17, 18, 19, 20] (by decide +kernel) (by decide +kernel)
set_option maxRecDepth 20000 in
theorem gX4_number_X2_numberOf_n100 : GoodIn wsX4_number (wsX2_numberOf) := ggX4_number_X2_numberOf
theorem dX4_number_0 : decode cX4_number 0 = .ok (.aload_n 0, 1) := by decide +kernel
theorem dX4_number_1 : decode cX4_number 1 = .ok (.getfield 10, 3) := by decide +kernel
theorem dX4_number_4 : decode cX4_number 4 = .ok (.iload_n 1, 1) := by decide +kernel
theorem dX4_number_5 : decode cX4_number 5 = .ok (.invokevirtual 100, 3) := by decide +kernel
theorem dX4_number_8 : decode cX4_number 8 = .ok (.ireturn, 1) := by decide +kernel
theorem dX4_count_0 : decode cX4_count 0 = .ok (.iload_n 1, 1) := by decide +kernel
theorem dX4_count_1 : decode cX4_count 1 = .ok (.tableswitch 60 0 3 #[31, 39, 47, 52], 31) := by decide +kernel
theorem dX4_count_32 : decode cX4_count 32 = .ok (.aload_n 0, 1) := by decide +kernel
theorem dX4_count_33 : decode cX4_count 33 = .ok (.getfield 10, 3) := by decide +kernel
theorem dX4_count_36 : decode cX4_count 36 = .ok (.getfield 103, 3) := by decide +kernel
theorem dX4_count_39 : decode cX4_count 39 = .ok (.ireturn, 1) := by decide +kernel
theorem dX4_count_40 : decode cX4_count 40 = .ok (.aload_n 0, 1) := by decide +kernel
theorem dX4_count_41 : decode cX4_count 41 = .ok (.getfield 19, 3) := by decide +kernel
theorem dX4_count_44 : decode cX4_count 44 = .ok (.getfield 106, 3) := by decide +kernel
theorem dX4_count_47 : decode cX4_count 47 = .ok (.ireturn, 1) := by decide +kernel
theorem dX4_count_48 : decode cX4_count 48 = .ok (.aload_n 0, 1) := by decide +kernel
theorem dX4_count_49 : decode cX4_count 49 = .ok (.getfield 39, 3) := by decide +kernel
theorem dX4_count_52 : decode cX4_count 52 = .ok (.ireturn, 1) := by decide +kernel
theorem dX4_count_53 : decode cX4_count 53 = .ok (.aload_n 0, 1) := by decide +kernel
theorem dX4_count_54 : decode cX4_count 54 = .ok (.getfield 35, 3) := by decide +kernel
theorem dX4_count_57 : decode cX4_count 57 = .ok (.getfield 69, 3) := by decide +kernel
theorem dX4_count_60 : decode cX4_count 60 = .ok (.ireturn, 1) := by decide +kernel
theorem dX4_count_61 : decode cX4_count 61 = .ok (.bipush (-2), 2) := by decide +kernel
theorem dX4_count_63 : decode cX4_count 63 = .ok (.ireturn, 1) := by decide +kernel
theorem dX4_isWithin_0 : decode cX4_isWithin 0 = .ok (.iload_n 0, 1) := by decide +kernel
theorem dX4_isWithin_1 : decode cX4_isWithin 1 = .ok (.iload_n 1, 1) := by decide +kernel
theorem dX4_isWithin_2 : decode cX4_isWithin 2 = .ok (.if_icmp .lt 12, 3) := by decide +kernel
theorem dX4_isWithin_5 : decode cX4_isWithin 5 = .ok (.iload_n 0, 1) := by decide +kernel
theorem dX4_isWithin_6 : decode cX4_isWithin 6 = .ok (.iload_n 2, 1) := by decide +kernel
theorem dX4_isWithin_7 : decode cX4_isWithin 7 = .ok (.if_icmp .gt 7, 3) := by decide +kernel
theorem dX4_isWithin_10 : decode cX4_isWithin 10 = .ok (.iconst 1, 1) := by decide +kernel
theorem dX4_isWithin_11 : decode cX4_isWithin 11 = .ok (.goto 4, 3) := by decide +kernel
theorem dX4_isWithin_14 : decode cX4_isWithin 14 = .ok (.iconst 0, 1) := by decide +kernel
theorem dX4_isWithin_15 : decode cX4_isWithin 15 = .ok (.ireturn, 1) := by decide +kernel
set_option maxRecDepth 20000 in
theorem ggX4_isPlace_X4_isWithin : GoodIn wsX4_isPlace wsX4_isWithin := goodIn_r _ [4] (by decide +kernel) (by decide +kernel)
set_option maxRecDepth 20000 in
theorem gX4_isPlace_X4_isWithin : GoodIn wsX4_isPlace (va_wsS RX4 109 yX4_isWithin wsX4_isWithin) := goodIn_app (goodIn_of _ (by decide +kernel)) ggX4_isPlace_X4_isWithin
theorem dX4_isPlace_0 : decode cX4_isPlace 0 = .ok (.iload_n 0, 1) := by decide +kernel
theorem dX4_isPlace_1 : decode cX4_isPlace 1 = .ok (.iconst 0, 1) := by decide +kernel
theorem dX4_isPlace_2 : decode cX4_isPlace 2 = .ok (.iconst 5, 1) := by decide +kernel
theorem dX4_isPlace_3 : decode cX4_isPlace 3 = .ok (.invokestatic 109, 3) := by decide +kernel
theorem dX4_isPlace_6 : decode cX4_isPlace 6 = .ok (.ireturn, 1) := by decide +kernel
set_option maxRecDepth 20000 in
theorem ggX4_isBlock_X4_isWithin : GoodIn wsX4_isBlock wsX4_isWithin := goodIn_r _ [4] (by decide +kernel) (by decide +kernel)
set_option maxRecDepth 20000 in
theorem gX4_isBlock_X4_isWithin : GoodIn wsX4_isBlock (va_wsS RX4 109 yX4_isWithin wsX4_isWithin) := goodIn_app (goodIn_of _ (by decide +kernel)) ggX4_isBlock_X4_isWithin
theorem dX4_isBlock_0 : decode cX4_isBlock 0 = .ok (.iload_n 0, 1) := by decide +kernel
theorem dX4_isBlock_1 : decode cX4_isBlock 1 = .ok (.iconst 0, 1) := by decide +kernel
theorem dX4_isBlock_2 : decode cX4_isBlock 2 = .ok (.bipush 39, 2) := by decide +kernel
theorem dX4_isBlock_4 : decode cX4_isBlock 4 = .ok (.invokestatic 109, 3) := by decide +kernel
theorem dX4_isBlock_7 : decode cX4_isBlock 7 = .ok (.ireturn, 1) := by decide +kernel
set_option maxRecDepth 20000 in
theorem ggX4_isLater_X4_isWithin : GoodIn wsX4_isLater wsX4_isWithin := goodIn_r _ [4] (by decide +kernel) (by decide +kernel)
set_option maxRecDepth 20000 in
theorem gX4_isLater_X4_isWithin : GoodIn wsX4_isLater (va_wsS RX4 109 yX4_isWithin wsX4_isWithin) := goodIn_app (goodIn_of _ (by decide +kernel)) ggX4_isLater_X4_isWithin
theorem dX4_isLater_0 : decode cX4_isLater 0 = .ok (.iload_n 0, 1) := by decide +kernel
theorem dX4_isLater_1 : decode cX4_isLater 1 = .ok (.iload_n 1, 1) := by decide +kernel
theorem dX4_isLater_2 : decode cX4_isLater 2 = .ok (.iconst 1, 1) := by decide +kernel
theorem dX4_isLater_3 : decode cX4_isLater 3 = .ok (.iadd, 1) := by decide +kernel
theorem dX4_isLater_4 : decode cX4_isLater 4 = .ok (.bipush 39, 2) := by decide +kernel
theorem dX4_isLater_6 : decode cX4_isLater 6 = .ok (.invokestatic 109, 3) := by decide +kernel
theorem dX4_isLater_9 : decode cX4_isLater 9 = .ok (.ireturn, 1) := by decide +kernel
set_option maxRecDepth 20000 in
theorem ggX4_isStep_X4_isBlock : GoodIn wsX4_isStep wsX4_isBlock := goodIn_r _ [4, 5, 6, 3, 7] (by decide +kernel) (by decide +kernel)
set_option maxRecDepth 20000 in
theorem gX4_isStep_X4_isBlock : GoodIn wsX4_isStep (va_wsS RX4 113 yX4_isBlock wsX4_isBlock) := goodIn_app (goodIn_of _ (by decide +kernel)) ggX4_isStep_X4_isBlock
set_option maxRecDepth 20000 in
theorem ggX4_isStep_X4_isPlace : GoodIn wsX4_isStep wsX4_isPlace := goodIn_r _ [10, 5, 6, 3, 7] (by decide +kernel) (by decide +kernel)
set_option maxRecDepth 20000 in
theorem gX4_isStep_X4_isPlace : GoodIn wsX4_isStep (va_wsS RX4 43 yX4_isPlace wsX4_isPlace) := goodIn_app (goodIn_of _ (by decide +kernel)) ggX4_isStep_X4_isPlace
set_option maxRecDepth 20000 in
theorem ggX4_isStep_X4_isLater : GoodIn wsX4_isStep wsX4_isLater := goodIn_r _ [13, 5, 6, 3, 7] (by decide +kernel) (by decide +kernel)
set_option maxRecDepth 20000 in
theorem gX4_isStep_X4_isLater : GoodIn wsX4_isStep (va_wsS RX4 116 yX4_isLater wsX4_isLater) := goodIn_app (goodIn_of _ (by decide +kernel)) ggX4_isStep_X4_isLater
set_option maxRecDepth 20000 in
theorem ggX4_isStep_X4_isWithin : GoodIn wsX4_isStep wsX4_isWithin := goodIn_r _ [7] (by decide +kernel) (by decide +kernel)
set_option maxRecDepth 20000 in
theorem gX4_isStep_X4_isWithin : GoodIn wsX4_isStep (va_wsS RX4 109 yX4_isWithin wsX4_isWithin) := goodIn_app (goodIn_of _ (by decide +kernel)) ggX4_isStep_X4_isWithin
theorem dX4_isStep_0 : decode cX4_isStep 0 = .ok (.iload_n 0, 1) := by decide +kernel
theorem dX4_isStep_1 : decode cX4_isStep 1 = .ok (.invokestatic 113, 3) := by decide +kernel
theorem dX4_isStep_4 : decode cX4_isStep 4 = .ok (.ifCond .ne 5, 3) := by decide +kernel
theorem dX4_isStep_7 : decode cX4_isStep 7 = .ok (.iconst 0, 1) := by decide +kernel
theorem dX4_isStep_8 : decode cX4_isStep 8 = .ok (.ireturn, 1) := by decide +kernel
theorem dX4_isStep_9 : decode cX4_isStep 9 = .ok (.iload_n 1, 1) := by decide +kernel
theorem dX4_isStep_10 : decode cX4_isStep 10 = .ok (.tableswitch 220 0 14 #[74, 76, 97, 74, 74, 74, 120, 128, 161, 184, 190, 195, 215, 215, 74], 74) := by decide +kernel
theorem dX4_isStep_84 : decode cX4_isStep 84 = .ok (.iconst 1, 1) := by decide +kernel
theorem dX4_isStep_85 : decode cX4_isStep 85 = .ok (.ireturn, 1) := by decide +kernel
theorem dX4_isStep_86 : decode cX4_isStep 86 = .ok (.iload_n 2, 1) := by decide +kernel
theorem dX4_isStep_87 : decode cX4_isStep 87 = .ok (.invokestatic 43, 3) := by decide +kernel
theorem dX4_isStep_90 : decode cX4_isStep 90 = .ok (.ifCond .eq 15, 3) := by decide +kernel
theorem dX4_isStep_93 : decode cX4_isStep 93 = .ok (.iload_n 3, 1) := by decide +kernel
theorem dX4_isStep_94 : decode cX4_isStep 94 = .ok (.iload_n 0, 1) := by decide +kernel
theorem dX4_isStep_95 : decode cX4_isStep 95 = .ok (.invokestatic 116, 3) := by decide +kernel
theorem dX4_isStep_98 : decode cX4_isStep 98 = .ok (.ifCond .eq 7, 3) := by decide +kernel
theorem dX4_isStep_101 : decode cX4_isStep 101 = .ok (.iconst 1, 1) := by decide +kernel
theorem dX4_isStep_102 : decode cX4_isStep 102 = .ok (.goto 4, 3) := by decide +kernel
theorem dX4_isStep_105 : decode cX4_isStep 105 = .ok (.iconst 0, 1) := by decide +kernel
theorem dX4_isStep_106 : decode cX4_isStep 106 = .ok (.ireturn, 1) := by decide +kernel
theorem dX4_isStep_107 : decode cX4_isStep 107 = .ok (.iload_n 2, 1) := by decide +kernel
theorem dX4_isStep_108 : decode cX4_isStep 108 = .ok (.iconst 0, 1) := by decide +kernel
theorem dX4_isStep_109 : decode cX4_isStep 109 = .ok (.iconst 5, 1) := by decide +kernel
theorem dX4_isStep_110 : decode cX4_isStep 110 = .ok (.invokestatic 109, 3) := by decide +kernel
theorem dX4_isStep_113 : decode cX4_isStep 113 = .ok (.ifCond .eq 15, 3) := by decide +kernel
theorem dX4_isStep_116 : decode cX4_isStep 116 = .ok (.iload_n 3, 1) := by decide +kernel
theorem dX4_isStep_117 : decode cX4_isStep 117 = .ok (.iload_n 0, 1) := by decide +kernel
theorem dX4_isStep_118 : decode cX4_isStep 118 = .ok (.invokestatic 116, 3) := by decide +kernel
theorem dX4_isStep_121 : decode cX4_isStep 121 = .ok (.ifCond .eq 7, 3) := by decide +kernel
theorem dX4_isStep_124 : decode cX4_isStep 124 = .ok (.iconst 1, 1) := by decide +kernel
theorem dX4_isStep_125 : decode cX4_isStep 125 = .ok (.goto 4, 3) := by decide +kernel
theorem dX4_isStep_128 : decode cX4_isStep 128 = .ok (.iconst 0, 1) := by decide +kernel
theorem dX4_isStep_129 : decode cX4_isStep 129 = .ok (.ireturn, 1) := by decide +kernel
theorem dX4_isStep_130 : decode cX4_isStep 130 = .ok (.iload_n 2, 1) := by decide +kernel
theorem dX4_isStep_131 : decode cX4_isStep 131 = .ok (.iconst 1, 1) := by decide +kernel
theorem dX4_isStep_132 : decode cX4_isStep 132 = .ok (.bipush 9, 2) := by decide +kernel
theorem dX4_isStep_134 : decode cX4_isStep 134 = .ok (.invokestatic 109, 3) := by decide +kernel
theorem dX4_isStep_137 : decode cX4_isStep 137 = .ok (.ireturn, 1) := by decide +kernel
theorem dX4_isStep_138 : decode cX4_isStep 138 = .ok (.iload_n 2, 1) := by decide +kernel
theorem dX4_isStep_139 : decode cX4_isStep 139 = .ok (.iconst 0, 1) := by decide +kernel
theorem dX4_isStep_140 : decode cX4_isStep 140 = .ok (.bipush 13, 2) := by decide +kernel
theorem dX4_isStep_142 : decode cX4_isStep 142 = .ok (.invokestatic 109, 3) := by decide +kernel
theorem dX4_isStep_145 : decode cX4_isStep 145 = .ok (.ifCond .eq 24, 3) := by decide +kernel
theorem dX4_isStep_148 : decode cX4_isStep 148 = .ok (.iload_n 3, 1) := by decide +kernel
theorem dX4_isStep_149 : decode cX4_isStep 149 = .ok (.iload_n 0, 1) := by decide +kernel
theorem dX4_isStep_150 : decode cX4_isStep 150 = .ok (.invokestatic 116, 3) := by decide +kernel
theorem dX4_isStep_153 : decode cX4_isStep 153 = .ok (.ifCond .eq 16, 3) := by decide +kernel
theorem dX4_isStep_156 : decode cX4_isStep 156 = .ok (.iload 4, 2) := by decide +kernel
theorem dX4_isStep_158 : decode cX4_isStep 158 = .ok (.iload_n 0, 1) := by decide +kernel
theorem dX4_isStep_159 : decode cX4_isStep 159 = .ok (.invokestatic 116, 3) := by decide +kernel
theorem dX4_isStep_162 : decode cX4_isStep 162 = .ok (.ifCond .eq 7, 3) := by decide +kernel
theorem dX4_isStep_165 : decode cX4_isStep 165 = .ok (.iconst 1, 1) := by decide +kernel
theorem dX4_isStep_166 : decode cX4_isStep 166 = .ok (.goto 4, 3) := by decide +kernel
theorem dX4_isStep_169 : decode cX4_isStep 169 = .ok (.iconst 0, 1) := by decide +kernel
theorem dX4_isStep_170 : decode cX4_isStep 170 = .ok (.ireturn, 1) := by decide +kernel
theorem dX4_isStep_171 : decode cX4_isStep 171 = .ok (.iload_n 3, 1) := by decide +kernel
theorem dX4_isStep_172 : decode cX4_isStep 172 = .ok (.iload_n 0, 1) := by decide +kernel
theorem dX4_isStep_173 : decode cX4_isStep 173 = .ok (.invokestatic 116, 3) := by decide +kernel
theorem dX4_isStep_176 : decode cX4_isStep 176 = .ok (.ifCond .eq 16, 3) := by decide +kernel
theorem dX4_isStep_179 : decode cX4_isStep 179 = .ok (.iload 4, 2) := by decide +kernel
theorem dX4_isStep_181 : decode cX4_isStep 181 = .ok (.iload_n 0, 1) := by decide +kernel
theorem dX4_isStep_182 : decode cX4_isStep 182 = .ok (.invokestatic 116, 3) := by decide +kernel
theorem dX4_isStep_185 : decode cX4_isStep 185 = .ok (.ifCond .eq 7, 3) := by decide +kernel
theorem dX4_isStep_188 : decode cX4_isStep 188 = .ok (.iconst 1, 1) := by decide +kernel
theorem dX4_isStep_189 : decode cX4_isStep 189 = .ok (.goto 4, 3) := by decide +kernel
theorem dX4_isStep_192 : decode cX4_isStep 192 = .ok (.iconst 0, 1) := by decide +kernel
theorem dX4_isStep_193 : decode cX4_isStep 193 = .ok (.ireturn, 1) := by decide +kernel
theorem dX4_isStep_194 : decode cX4_isStep 194 = .ok (.iload_n 3, 1) := by decide +kernel
theorem dX4_isStep_195 : decode cX4_isStep 195 = .ok (.iload_n 0, 1) := by decide +kernel
theorem dX4_isStep_196 : decode cX4_isStep 196 = .ok (.invokestatic 116, 3) := by decide +kernel
theorem dX4_isStep_199 : decode cX4_isStep 199 = .ok (.ireturn, 1) := by decide +kernel
theorem dX4_isStep_200 : decode cX4_isStep 200 = .ok (.iload_n 3, 1) := by decide +kernel
theorem dX4_isStep_201 : decode cX4_isStep 201 = .ok (.invokestatic 43, 3) := by decide +kernel
theorem dX4_isStep_204 : decode cX4_isStep 204 = .ok (.ireturn, 1) := by decide +kernel
theorem dX4_isStep_205 : decode cX4_isStep 205 = .ok (.iload_n 2, 1) := by decide +kernel
theorem dX4_isStep_206 : decode cX4_isStep 206 = .ok (.invokestatic 43, 3) := by decide +kernel
theorem dX4_isStep_209 : decode cX4_isStep 209 = .ok (.ifCond .eq 14, 3) := by decide +kernel
theorem dX4_isStep_212 : decode cX4_isStep 212 = .ok (.iload_n 3, 1) := by decide +kernel
theorem dX4_isStep_213 : decode cX4_isStep 213 = .ok (.invokestatic 43, 3) := by decide +kernel
theorem dX4_isStep_216 : decode cX4_isStep 216 = .ok (.ifCond .eq 7, 3) := by decide +kernel
theorem dX4_isStep_219 : decode cX4_isStep 219 = .ok (.iconst 1, 1) := by decide +kernel
theorem dX4_isStep_220 : decode cX4_isStep 220 = .ok (.goto 4, 3) := by decide +kernel
theorem dX4_isStep_223 : decode cX4_isStep 223 = .ok (.iconst 0, 1) := by decide +kernel
theorem dX4_isStep_224 : decode cX4_isStep 224 = .ok (.ireturn, 1) := by decide +kernel
theorem dX4_isStep_225 : decode cX4_isStep 225 = .ok (.iload_n 2, 1) := by decide +kernel
theorem dX4_isStep_226 : decode cX4_isStep 226 = .ok (.invokestatic 43, 3) := by decide +kernel
theorem dX4_isStep_229 : decode cX4_isStep 229 = .ok (.ireturn, 1) := by decide +kernel
theorem dX4_isStep_230 : decode cX4_isStep 230 = .ok (.iconst 0, 1) := by decide +kernel
theorem dX4_isStep_231 : decode cX4_isStep 231 = .ok (.ireturn, 1) := by decide +kernel
theorem dX4_isThrown_0 : decode cX4_isThrown 0 = .ok (.iload_n 0, 1) := by decide +kernel
theorem dX4_isThrown_1 : decode cX4_isThrown 1 = .ok (.bipush 100, 2) := by decide +kernel
theorem dX4_isThrown_3 : decode cX4_isThrown 3 = .ok (.if_icmp .le 7, 3) := by decide +kernel
theorem dX4_isThrown_6 : decode cX4_isThrown 6 = .ok (.iconst 1, 1) := by decide +kernel
theorem dX4_isThrown_7 : decode cX4_isThrown 7 = .ok (.goto 4, 3) := by decide +kernel
theorem dX4_isThrown_10 : decode cX4_isThrown 10 = .ok (.iconst 0, 1) := by decide +kernel
theorem dX4_isThrown_11 : decode cX4_isThrown 11 = .ok (.ireturn, 1) := by decide +kernel
theorem dX5_init_0 : decode cX5_init 0 = .ok (.aload_n 0, 1) := by decide +kernel
theorem dX5_init_1 : decode cX5_init 1 = .ok (.invokespecial 1, 3) := by decide +kernel
theorem dX5_init_4 : decode cX5_init 4 = .ok (.aload_n 0, 1) := by decide +kernel
theorem dX5_init_5 : decode cX5_init 5 = .ok (.bipush 6, 2) := by decide +kernel
theorem dX5_init_7 : decode cX5_init 7 = .ok (.newarray .int, 2) := by decide +kernel
theorem dX5_init_9 : decode cX5_init 9 = .ok (.putfield 7, 3) := by decide +kernel
theorem dX5_init_12 : decode cX5_init 12 = .ok (.aload_n 0, 1) := by decide +kernel
theorem dX5_init_13 : decode cX5_init 13 = .ok (.bipush 60, 2) := by decide +kernel
theorem dX5_init_15 : decode cX5_init 15 = .ok (.newarray .int, 2) := by decide +kernel
theorem dX5_init_17 : decode cX5_init 17 = .ok (.putfield 13, 3) := by decide +kernel
theorem dX5_init_20 : decode cX5_init 20 = .ok (.aload_n 0, 1) := by decide +kernel
theorem dX5_init_21 : decode cX5_init 21 = .ok (.bipush 60, 2) := by decide +kernel
theorem dX5_init_23 : decode cX5_init 23 = .ok (.newarray .int, 2) := by decide +kernel
theorem dX5_init_25 : decode cX5_init 25 = .ok (.putfield 16, 3) := by decide +kernel
theorem dX5_init_28 : decode cX5_init 28 = .ok (.aload_n 0, 1) := by decide +kernel
theorem dX5_init_29 : decode cX5_init 29 = .ok (.bipush 40, 2) := by decide +kernel
theorem dX5_init_31 : decode cX5_init 31 = .ok (.newarray .int, 2) := by decide +kernel
theorem dX5_init_33 : decode cX5_init 33 = .ok (.putfield 19, 3) := by decide +kernel
theorem dX5_init_36 : decode cX5_init 36 = .ok (.aload_n 0, 1) := by decide +kernel
theorem dX5_init_37 : decode cX5_init 37 = .ok (.sipush 480, 3) := by decide +kernel
theorem dX5_init_40 : decode cX5_init 40 = .ok (.newarray .int, 2) := by decide +kernel
theorem dX5_init_42 : decode cX5_init 42 = .ok (.putfield 22, 3) := by decide +kernel
theorem dX5_init_45 : decode cX5_init 45 = .ok (.aload_n 0, 1) := by decide +kernel
theorem dX5_init_46 : decode cX5_init 46 = .ok (.sipush 480, 3) := by decide +kernel
theorem dX5_init_49 : decode cX5_init 49 = .ok (.newarray .int, 2) := by decide +kernel
theorem dX5_init_51 : decode cX5_init 51 = .ok (.putfield 25, 3) := by decide +kernel
theorem dX5_init_54 : decode cX5_init 54 = .ok (.aload_n 0, 1) := by decide +kernel
theorem dX5_init_55 : decode cX5_init 55 = .ok (.sipush 480, 3) := by decide +kernel
theorem dX5_init_58 : decode cX5_init 58 = .ok (.newarray .int, 2) := by decide +kernel
theorem dX5_init_60 : decode cX5_init 60 = .ok (.putfield 28, 3) := by decide +kernel
theorem dX5_init_63 : decode cX5_init 63 = .ok (.aload_n 0, 1) := by decide +kernel
theorem dX5_init_64 : decode cX5_init 64 = .ok (.sipush 480, 3) := by decide +kernel
theorem dX5_init_67 : decode cX5_init 67 = .ok (.newarray .int, 2) := by decide +kernel
theorem dX5_init_69 : decode cX5_init 69 = .ok (.putfield 31, 3) := by decide +kernel
theorem dX5_init_72 : decode cX5_init 72 = .ok (.aload_n 0, 1) := by decide +kernel
theorem dX5_init_73 : decode cX5_init 73 = .ok (.sipush 250, 3) := by decide +kernel
theorem dX5_init_76 : decode cX5_init 76 = .ok (.newarray .int, 2) := by decide +kernel
theorem dX5_init_78 : decode cX5_init 78 = .ok (.putfield 34, 3) := by decide +kernel
theorem dX5_init_81 : decode cX5_init 81 = .ok (.iconst 0, 1) := by decide +kernel
theorem dX5_init_82 : decode cX5_init 82 = .ok (.istore_n 1, 1) := by decide +kernel
theorem dX5_init_83 : decode cX5_init 83 = .ok (.iload_n 1, 1) := by decide +kernel
theorem dX5_init_84 : decode cX5_init 84 = .ok (.bipush 6, 2) := by decide +kernel
theorem dX5_init_86 : decode cX5_init 86 = .ok (.if_icmp .ge 16, 3) := by decide +kernel
theorem dX5_init_89 : decode cX5_init 89 = .ok (.aload_n 0, 1) := by decide +kernel
theorem dX5_init_90 : decode cX5_init 90 = .ok (.getfield 7, 3) := by decide +kernel
theorem dX5_init_93 : decode cX5_init 93 = .ok (.iload_n 1, 1) := by decide +kernel
theorem dX5_init_94 : decode cX5_init 94 = .ok (.iconst (-1), 1) := by decide +kernel
theorem dX5_init_95 : decode cX5_init 95 = .ok (.iastore, 1) := by decide +kernel
theorem dX5_init_96 : decode cX5_init 96 = .ok (.iinc 1 1, 3) := by decide +kernel
theorem dX5_init_99 : decode cX5_init 99 = .ok (.goto (-16), 3) := by decide +kernel
theorem dX5_init_102 : decode cX5_init 102 = .ok (.return_, 1) := by decide +kernel
theorem dX5_in_0 : decode cX5_in 0 = .ok (.iload_n 0, 1) := by decide +kernel
theorem dX5_in_1 : decode cX5_in 1 = .ok (.iload_n 1, 1) := by decide +kernel
theorem dX5_in_2 : decode cX5_in 2 = .ok (.if_icmp .lt 12, 3) := by decide +kernel
theorem dX5_in_5 : decode cX5_in 5 = .ok (.iload_n 0, 1) := by decide +kernel
theorem dX5_in_6 : decode cX5_in 6 = .ok (.iload_n 2, 1) := by decide +kernel
theorem dX5_in_7 : decode cX5_in 7 = .ok (.if_icmp .gt 7, 3) := by decide +kernel
theorem dX5_in_10 : decode cX5_in 10 = .ok (.iconst 1, 1) := by decide +kernel
theorem dX5_in_11 : decode cX5_in 11 = .ok (.goto 4, 3) := by decide +kernel
theorem dX5_in_14 : decode cX5_in 14 = .ok (.iconst 0, 1) := by decide +kernel
theorem dX5_in_15 : decode cX5_in 15 = .ok (.ireturn, 1) := by decide +kernel
set_option maxRecDepth 20000 in
theorem ggX5_isPlace_X5_in : GoodIn wsX5_isPlace wsX5_in := goodIn_r _ [4] (by decide +kernel) (by decide +kernel)
set_option maxRecDepth 20000 in
theorem gX5_isPlace_X5_in : GoodIn wsX5_isPlace (va_wsS RX5 41 yX5_in wsX5_in) := goodIn_app (goodIn_of _ (by decide +kernel)) ggX5_isPlace_X5_in
theorem dX5_isPlace_0 : decode cX5_isPlace 0 = .ok (.iload_n 0, 1) := by decide +kernel
theorem dX5_isPlace_1 : decode cX5_isPlace 1 = .ok (.iconst 0, 1) := by decide +kernel
theorem dX5_isPlace_2 : decode cX5_isPlace 2 = .ok (.iconst 5, 1) := by decide +kernel
theorem dX5_isPlace_3 : decode cX5_isPlace 3 = .ok (.invokestatic 41, 3) := by decide +kernel
theorem dX5_isPlace_6 : decode cX5_isPlace 6 = .ok (.ireturn, 1) := by decide +kernel
theorem dX5_made_0 : decode cX5_made 0 = .ok (.aload_n 0, 1) := by decide +kernel
theorem dX5_made_1 : decode cX5_made 1 = .ok (.getfield 13, 3) := by decide +kernel
theorem dX5_made_4 : decode cX5_made 4 = .ok (.aload_n 0, 1) := by decide +kernel
theorem dX5_made_5 : decode cX5_made 5 = .ok (.getfield 45, 3) := by decide +kernel
theorem dX5_made_8 : decode cX5_made 8 = .ok (.iconst 0, 1) := by decide +kernel
theorem dX5_made_9 : decode cX5_made 9 = .ok (.iastore, 1) := by decide +kernel
theorem dX5_made_10 : decode cX5_made 10 = .ok (.aload_n 0, 1) := by decide +kernel
theorem dX5_made_11 : decode cX5_made 11 = .ok (.getfield 16, 3) := by decide +kernel
theorem dX5_made_14 : decode cX5_made 14 = .ok (.aload_n 0, 1) := by decide +kernel
theorem dX5_made_15 : decode cX5_made 15 = .ok (.getfield 45, 3) := by decide +kernel
theorem dX5_made_18 : decode cX5_made 18 = .ok (.iconst 0, 1) := by decide +kernel
theorem dX5_made_19 : decode cX5_made 19 = .ok (.iastore, 1) := by decide +kernel
theorem dX5_made_20 : decode cX5_made 20 = .ok (.aload_n 0, 1) := by decide +kernel
theorem dX5_made_21 : decode cX5_made 21 = .ok (.getfield 7, 3) := by decide +kernel
theorem dX5_made_24 : decode cX5_made 24 = .ok (.iload_n 1, 1) := by decide +kernel
theorem dX5_made_25 : decode cX5_made 25 = .ok (.aload_n 0, 1) := by decide +kernel
theorem dX5_made_26 : decode cX5_made 26 = .ok (.getfield 45, 3) := by decide +kernel
theorem dX5_made_29 : decode cX5_made 29 = .ok (.iastore, 1) := by decide +kernel
theorem dX5_made_30 : decode cX5_made 30 = .ok (.aload_n 0, 1) := by decide +kernel
theorem dX5_made_31 : decode cX5_made 31 = .ok (.dup, 1) := by decide +kernel
theorem dX5_made_32 : decode cX5_made 32 = .ok (.getfield 45, 3) := by decide +kernel
theorem dX5_made_35 : decode cX5_made 35 = .ok (.iconst 1, 1) := by decide +kernel
theorem dX5_made_36 : decode cX5_made 36 = .ok (.iadd, 1) := by decide +kernel
theorem dX5_made_37 : decode cX5_made 37 = .ok (.putfield 45, 3) := by decide +kernel
theorem dX5_made_40 : decode cX5_made 40 = .ok (.aload_n 0, 1) := by decide +kernel
theorem dX5_made_41 : decode cX5_made 41 = .ok (.getfield 45, 3) := by decide +kernel
theorem dX5_made_44 : decode cX5_made 44 = .ok (.iconst 1, 1) := by decide +kernel
theorem dX5_made_45 : decode cX5_made 45 = .ok (.isub, 1) := by decide +kernel
theorem dX5_made_46 : decode cX5_made 46 = .ok (.ireturn, 1) := by decide +kernel
set_option maxRecDepth 20000 in
theorem ggX5_thing_X5_isPlace : GoodIn wsX5_thing wsX5_isPlace := goodIn_r _ [6, 7, 8, 5, 9] (by decide +kernel) (by decide +kernel)
set_option maxRecDepth 20000 in
theorem gX5_thing_X5_isPlace : GoodIn wsX5_thing (va_wsS RX5 48 yX5_isPlace wsX5_isPlace) := goodIn_app (goodIn_of _ (by decide +kernel)) ggX5_thing_X5_isPlace
set_option maxRecDepth 20000 in
theorem ggX5_thing_X5_made : GoodIn wsX5_thing wsX5_made := goodIn_r _ [13, 14, 2, 15, 16, 17, 18, 19, 20, 21, 22, 23, 24, 25, 26, 27, 28, 29, 30, 31, 32, 33, 34, 35, 36, 37, 38] (by decide +kernel) (by decide +kernel)
set_option maxRecDepth 20000 in
theorem gX5_thing_X5_made : GoodIn wsX5_thing (wsV RX5 52 RX5 yX5_made wsX5_made) := goodIn_app (goodIn_of _ (by decide +kernel)) ggX5_thing_X5_made
theorem dX5_thing_0 : decode cX5_thing 0 = .ok (.aload_n 0, 1) := by decide +kernel
theorem dX5_thing_1 : decode cX5_thing 1 = .ok (.iconst 0, 1) := by decide +kernel
theorem dX5_thing_2 : decode cX5_thing 2 = .ok (.putfield 37, 3) := by decide +kernel
theorem dX5_thing_5 : decode cX5_thing 5 = .ok (.iload_n 1, 1) := by decide +kernel
theorem dX5_thing_6 : decode cX5_thing 6 = .ok (.invokestatic 48, 3) := by decide +kernel
theorem dX5_thing_9 : decode cX5_thing 9 = .ok (.ifCond .ne 8, 3) := by decide +kernel
theorem dX5_thing_12 : decode cX5_thing 12 = .ok (.bipush (-2), 2) := by decide +kernel
theorem dX5_thing_14 : decode cX5_thing 14 = .ok (.goto 22, 3) := by decide +kernel
theorem dX5_thing_17 : decode cX5_thing 17 = .ok (.aload_n 0, 1) := by decide +kernel
theorem dX5_thing_18 : decode cX5_thing 18 = .ok (.getfield 45, 3) := by decide +kernel
theorem dX5_thing_21 : decode cX5_thing 21 = .ok (.bipush 60, 2) := by decide +kernel
theorem dX5_thing_23 : decode cX5_thing 23 = .ok (.if_icmp .ne 8, 3) := by decide +kernel
theorem dX5_thing_26 : decode cX5_thing 26 = .ok (.bipush (-3), 2) := by decide +kernel
theorem dX5_thing_28 : decode cX5_thing 28 = .ok (.goto 8, 3) := by decide +kernel
theorem dX5_thing_31 : decode cX5_thing 31 = .ok (.aload_n 0, 1) := by decide +kernel
theorem dX5_thing_32 : decode cX5_thing 32 = .ok (.iload_n 1, 1) := by decide +kernel
theorem dX5_thing_33 : decode cX5_thing 33 = .ok (.invokevirtual 52, 3) := by decide +kernel
theorem dX5_thing_36 : decode cX5_thing 36 = .ok (.ireturn, 1) := by decide +kernel
set_option maxRecDepth 20000 in
theorem ggX5_set_X5_isPlace : GoodIn wsX5_set wsX5_isPlace := goodIn_r _ [6, 7, 8, 5, 9] (by decide +kernel) (by decide +kernel)
set_option maxRecDepth 20000 in
theorem gX5_set_X5_isPlace : GoodIn wsX5_set (va_wsS RX5 48 yX5_isPlace wsX5_isPlace) := goodIn_app (goodIn_of _ (by decide +kernel)) ggX5_set_X5_isPlace
set_option maxRecDepth 20000 in
theorem ggX5_set_X5_in : GoodIn wsX5_set wsX5_in := goodIn_r _ [9] (by decide +kernel) (by decide +kernel)
set_option maxRecDepth 20000 in
theorem gX5_set_X5_in : GoodIn wsX5_set (va_wsS RX5 41 yX5_in wsX5_in) := goodIn_app (goodIn_of _ (by decide +kernel)) ggX5_set_X5_in
theorem dX5_set_0 : decode cX5_set 0 = .ok (.aload_n 0, 1) := by decide +kernel
theorem dX5_set_1 : decode cX5_set 1 = .ok (.iconst 0, 1) := by decide +kernel
theorem dX5_set_2 : decode cX5_set 2 = .ok (.putfield 37, 3) := by decide +kernel
theorem dX5_set_5 : decode cX5_set 5 = .ok (.iload_n 1, 1) := by decide +kernel
theorem dX5_set_6 : decode cX5_set 6 = .ok (.invokestatic 48, 3) := by decide +kernel
theorem dX5_set_9 : decode cX5_set 9 = .ok (.ifCond .eq 12, 3) := by decide +kernel
theorem dX5_set_12 : decode cX5_set 12 = .ok (.iload_n 2, 1) := by decide +kernel
theorem dX5_set_13 : decode cX5_set 13 = .ok (.iconst (-1), 1) := by decide +kernel
theorem dX5_set_14 : decode cX5_set 14 = .ok (.iconst 5, 1) := by decide +kernel
theorem dX5_set_15 : decode cX5_set 15 = .ok (.invokestatic 41, 3) := by decide +kernel
theorem dX5_set_18 : decode cX5_set 18 = .ok (.ifCond .ne 6, 3) := by decide +kernel
theorem dX5_set_21 : decode cX5_set 21 = .ok (.bipush (-2), 2) := by decide +kernel
theorem dX5_set_23 : decode cX5_set 23 = .ok (.ireturn, 1) := by decide +kernel
theorem dX5_set_24 : decode cX5_set 24 = .ok (.aload_n 0, 1) := by decide +kernel
theorem dX5_set_25 : decode cX5_set 25 = .ok (.getfield 7, 3) := by decide +kernel
theorem dX5_set_28 : decode cX5_set 28 = .ok (.iload_n 1, 1) := by decide +kernel
theorem dX5_set_29 : decode cX5_set 29 = .ok (.iload_n 2, 1) := by decide +kernel
theorem dX5_set_30 : decode cX5_set 30 = .ok (.iconst (-1), 1) := by decide +kernel
theorem dX5_set_31 : decode cX5_set 31 = .ok (.if_icmp .ne 7, 3) := by decide +kernel
theorem dX5_set_34 : decode cX5_set 34 = .ok (.iconst (-1), 1) := by decide +kernel
theorem dX5_set_35 : decode cX5_set 35 = .ok (.goto 9, 3) := by decide +kernel
theorem dX5_set_38 : decode cX5_set 38 = .ok (.aload_n 0, 1) := by decide +kernel
theorem dX5_set_39 : decode cX5_set 39 = .ok (.getfield 7, 3) := by decide +kernel
theorem dX5_set_42 : decode cX5_set 42 = .ok (.iload_n 2, 1) := by decide +kernel
theorem dX5_set_43 : decode cX5_set 43 = .ok (.iaload, 1) := by decide +kernel
theorem dX5_set_44 : decode cX5_set 44 = .ok (.iastore, 1) := by decide +kernel
theorem dX5_set_45 : decode cX5_set 45 = .ok (.aload_n 0, 1) := by decide +kernel
theorem dX5_set_46 : decode cX5_set 46 = .ok (.getfield 7, 3) := by decide +kernel
theorem dX5_set_49 : decode cX5_set 49 = .ok (.iload_n 1, 1) := by decide +kernel
theorem dX5_set_50 : decode cX5_set 50 = .ok (.iaload, 1) := by decide +kernel
theorem dX5_set_51 : decode cX5_set 51 = .ok (.ireturn, 1) := by decide +kernel
theorem dX5_isBelow_0 : decode cX5_isBelow 0 = .ok (.iload_n 1, 1) := by decide +kernel
theorem dX5_isBelow_1 : decode cX5_isBelow 1 = .ok (.iload_n 0, 1) := by decide +kernel
theorem dX5_isBelow_2 : decode cX5_isBelow 2 = .ok (.if_icmp .le 13, 3) := by decide +kernel
theorem dX5_isBelow_5 : decode cX5_isBelow 5 = .ok (.iload_n 1, 1) := by decide +kernel
theorem dX5_isBelow_6 : decode cX5_isBelow 6 = .ok (.bipush 40, 2) := by decide +kernel
theorem dX5_isBelow_8 : decode cX5_isBelow 8 = .ok (.if_icmp .ge 7, 3) := by decide +kernel
theorem dX5_isBelow_11 : decode cX5_isBelow 11 = .ok (.iconst 1, 1) := by decide +kernel
theorem dX5_isBelow_12 : decode cX5_isBelow 12 = .ok (.goto 4, 3) := by decide +kernel
theorem dX5_isBelow_15 : decode cX5_isBelow 15 = .ok (.iconst 0, 1) := by decide +kernel
theorem dX5_isBelow_16 : decode cX5_isBelow 16 = .ok (.ireturn, 1) := by decide +kernel
set_option maxRecDepth 20000 in
theorem ggX5_isRight_X5_isPlace : GoodIn wsX5_isRight wsX5_isPlace := goodIn_r _ [4, 5, 6, 3, 7] (by decide +kernel) (by decide +kernel)
set_option maxRecDepth 20000 in
theorem gX5_isRight_X5_isPlace : GoodIn wsX5_isRight (va_wsS RX5 48 yX5_isPlace wsX5_isPlace) := goodIn_app (goodIn_of _ (by decide +kernel)) ggX5_isRight_X5_isPlace
set_option maxRecDepth 20000 in
theorem ggX5_isRight_X5_isBelow : GoodIn wsX5_isRight wsX5_isBelow := goodIn_r _ [10] (by decide +kernel) (by decide +kernel)
set_option maxRecDepth 20000 in
theorem gX5_isRight_X5_isBelow : GoodIn wsX5_isRight (va_wsS RX5 56 yX5_isBelow wsX5_isBelow) := goodIn_app (goodIn_of _ (by decide +kernel)) ggX5_isRight_X5_isBelow
set_option maxRecDepth 20000 in
theorem ggX5_isRight_X5_in : GoodIn wsX5_isRight wsX5_in := goodIn_r _ [7] (by decide +kernel) (by decide +kernel)
set_option maxRecDepth 20000 in
theorem gX5_isRight_X5_in : GoodIn wsX5_isRight (va_wsS RX5 41 yX5_in wsX5_in) := goodIn_app (goodIn_of _ (by decide +kernel)) ggX5_isRight_X5_in
theorem dX5_isRight_0 : decode cX5_isRight 0 = .ok (.iload_n 1, 1) := by decide +kernel
theorem dX5_isRight_1 : decode cX5_isRight 1 = .ok (.tableswitch 211 1 13 #[67, 88, 211, 211, 211, 111, 119, 152, 175, 181, 186, 206, 206], 67) := by decide +kernel
theorem dX5_isRight_68 : decode cX5_isRight 68 = .ok (.iload_n 2, 1) := by decide +kernel
theorem dX5_isRight_69 : decode cX5_isRight 69 = .ok (.invokestatic 48, 3) := by decide +kernel
theorem dX5_isRight_72 : decode cX5_isRight 72 = .ok (.ifCond .eq 15, 3) := by decide +kernel
theorem dX5_isRight_75 : decode cX5_isRight 75 = .ok (.iload_n 0, 1) := by decide +kernel
theorem dX5_isRight_76 : decode cX5_isRight 76 = .ok (.iload_n 3, 1) := by decide +kernel
theorem dX5_isRight_77 : decode cX5_isRight 77 = .ok (.invokestatic 56, 3) := by decide +kernel
theorem dX5_isRight_80 : decode cX5_isRight 80 = .ok (.ifCond .eq 7, 3) := by decide +kernel
theorem dX5_isRight_83 : decode cX5_isRight 83 = .ok (.iconst 1, 1) := by decide +kernel
theorem dX5_isRight_84 : decode cX5_isRight 84 = .ok (.goto 4, 3) := by decide +kernel
theorem dX5_isRight_87 : decode cX5_isRight 87 = .ok (.iconst 0, 1) := by decide +kernel
theorem dX5_isRight_88 : decode cX5_isRight 88 = .ok (.ireturn, 1) := by decide +kernel
theorem dX5_isRight_89 : decode cX5_isRight 89 = .ok (.iload_n 2, 1) := by decide +kernel
theorem dX5_isRight_90 : decode cX5_isRight 90 = .ok (.iconst 0, 1) := by decide +kernel
theorem dX5_isRight_91 : decode cX5_isRight 91 = .ok (.iconst 5, 1) := by decide +kernel
theorem dX5_isRight_92 : decode cX5_isRight 92 = .ok (.invokestatic 41, 3) := by decide +kernel
theorem dX5_isRight_95 : decode cX5_isRight 95 = .ok (.ifCond .eq 15, 3) := by decide +kernel
theorem dX5_isRight_98 : decode cX5_isRight 98 = .ok (.iload_n 0, 1) := by decide +kernel
theorem dX5_isRight_99 : decode cX5_isRight 99 = .ok (.iload_n 3, 1) := by decide +kernel
theorem dX5_isRight_100 : decode cX5_isRight 100 = .ok (.invokestatic 56, 3) := by decide +kernel
theorem dX5_isRight_103 : decode cX5_isRight 103 = .ok (.ifCond .eq 7, 3) := by decide +kernel
theorem dX5_isRight_106 : decode cX5_isRight 106 = .ok (.iconst 1, 1) := by decide +kernel
theorem dX5_isRight_107 : decode cX5_isRight 107 = .ok (.goto 4, 3) := by decide +kernel
theorem dX5_isRight_110 : decode cX5_isRight 110 = .ok (.iconst 0, 1) := by decide +kernel
theorem dX5_isRight_111 : decode cX5_isRight 111 = .ok (.ireturn, 1) := by decide +kernel
theorem dX5_isRight_112 : decode cX5_isRight 112 = .ok (.iload_n 2, 1) := by decide +kernel
theorem dX5_isRight_113 : decode cX5_isRight 113 = .ok (.iconst 1, 1) := by decide +kernel
theorem dX5_isRight_114 : decode cX5_isRight 114 = .ok (.bipush 9, 2) := by decide +kernel
theorem dX5_isRight_116 : decode cX5_isRight 116 = .ok (.invokestatic 41, 3) := by decide +kernel
theorem dX5_isRight_119 : decode cX5_isRight 119 = .ok (.ireturn, 1) := by decide +kernel
theorem dX5_isRight_120 : decode cX5_isRight 120 = .ok (.iload_n 2, 1) := by decide +kernel
theorem dX5_isRight_121 : decode cX5_isRight 121 = .ok (.iconst 0, 1) := by decide +kernel
theorem dX5_isRight_122 : decode cX5_isRight 122 = .ok (.bipush 13, 2) := by decide +kernel
theorem dX5_isRight_124 : decode cX5_isRight 124 = .ok (.invokestatic 41, 3) := by decide +kernel
theorem dX5_isRight_127 : decode cX5_isRight 127 = .ok (.ifCond .eq 24, 3) := by decide +kernel
theorem dX5_isRight_130 : decode cX5_isRight 130 = .ok (.iload_n 0, 1) := by decide +kernel
theorem dX5_isRight_131 : decode cX5_isRight 131 = .ok (.iload_n 3, 1) := by decide +kernel
theorem dX5_isRight_132 : decode cX5_isRight 132 = .ok (.invokestatic 56, 3) := by decide +kernel
theorem dX5_isRight_135 : decode cX5_isRight 135 = .ok (.ifCond .eq 16, 3) := by decide +kernel
theorem dX5_isRight_138 : decode cX5_isRight 138 = .ok (.iload_n 0, 1) := by decide +kernel
theorem dX5_isRight_139 : decode cX5_isRight 139 = .ok (.iload 4, 2) := by decide +kernel
theorem dX5_isRight_141 : decode cX5_isRight 141 = .ok (.invokestatic 56, 3) := by decide +kernel
theorem dX5_isRight_144 : decode cX5_isRight 144 = .ok (.ifCond .eq 7, 3) := by decide +kernel
theorem dX5_isRight_147 : decode cX5_isRight 147 = .ok (.iconst 1, 1) := by decide +kernel
theorem dX5_isRight_148 : decode cX5_isRight 148 = .ok (.goto 4, 3) := by decide +kernel
theorem dX5_isRight_151 : decode cX5_isRight 151 = .ok (.iconst 0, 1) := by decide +kernel
theorem dX5_isRight_152 : decode cX5_isRight 152 = .ok (.ireturn, 1) := by decide +kernel
theorem dX5_isRight_153 : decode cX5_isRight 153 = .ok (.iload_n 0, 1) := by decide +kernel
theorem dX5_isRight_154 : decode cX5_isRight 154 = .ok (.iload_n 3, 1) := by decide +kernel
theorem dX5_isRight_155 : decode cX5_isRight 155 = .ok (.invokestatic 56, 3) := by decide +kernel
theorem dX5_isRight_158 : decode cX5_isRight 158 = .ok (.ifCond .eq 16, 3) := by decide +kernel
theorem dX5_isRight_161 : decode cX5_isRight 161 = .ok (.iload_n 0, 1) := by decide +kernel
theorem dX5_isRight_162 : decode cX5_isRight 162 = .ok (.iload 4, 2) := by decide +kernel
theorem dX5_isRight_164 : decode cX5_isRight 164 = .ok (.invokestatic 56, 3) := by decide +kernel
theorem dX5_isRight_167 : decode cX5_isRight 167 = .ok (.ifCond .eq 7, 3) := by decide +kernel
theorem dX5_isRight_170 : decode cX5_isRight 170 = .ok (.iconst 1, 1) := by decide +kernel
theorem dX5_isRight_171 : decode cX5_isRight 171 = .ok (.goto 4, 3) := by decide +kernel
theorem dX5_isRight_174 : decode cX5_isRight 174 = .ok (.iconst 0, 1) := by decide +kernel
theorem dX5_isRight_175 : decode cX5_isRight 175 = .ok (.ireturn, 1) := by decide +kernel
theorem dX5_isRight_176 : decode cX5_isRight 176 = .ok (.iload_n 0, 1) := by decide +kernel
theorem dX5_isRight_177 : decode cX5_isRight 177 = .ok (.iload_n 3, 1) := by decide +kernel
theorem dX5_isRight_178 : decode cX5_isRight 178 = .ok (.invokestatic 56, 3) := by decide +kernel
theorem dX5_isRight_181 : decode cX5_isRight 181 = .ok (.ireturn, 1) := by decide +kernel
theorem dX5_isRight_182 : decode cX5_isRight 182 = .ok (.iload_n 3, 1) := by decide +kernel
theorem dX5_isRight_183 : decode cX5_isRight 183 = .ok (.invokestatic 48, 3) := by decide +kernel
theorem dX5_isRight_186 : decode cX5_isRight 186 = .ok (.ireturn, 1) := by decide +kernel
theorem dX5_isRight_187 : decode cX5_isRight 187 = .ok (.iload_n 2, 1) := by decide +kernel
theorem dX5_isRight_188 : decode cX5_isRight 188 = .ok (.invokestatic 48, 3) := by decide +kernel
theorem dX5_isRight_191 : decode cX5_isRight 191 = .ok (.ifCond .eq 14, 3) := by decide +kernel
theorem dX5_isRight_194 : decode cX5_isRight 194 = .ok (.iload_n 3, 1) := by decide +kernel
theorem dX5_isRight_195 : decode cX5_isRight 195 = .ok (.invokestatic 48, 3) := by decide +kernel
theorem dX5_isRight_198 : decode cX5_isRight 198 = .ok (.ifCond .eq 7, 3) := by decide +kernel
theorem dX5_isRight_201 : decode cX5_isRight 201 = .ok (.iconst 1, 1) := by decide +kernel
theorem dX5_isRight_202 : decode cX5_isRight 202 = .ok (.goto 4, 3) := by decide +kernel
theorem dX5_isRight_205 : decode cX5_isRight 205 = .ok (.iconst 0, 1) := by decide +kernel
theorem dX5_isRight_206 : decode cX5_isRight 206 = .ok (.ireturn, 1) := by decide +kernel
theorem dX5_isRight_207 : decode cX5_isRight 207 = .ok (.iload_n 2, 1) := by decide +kernel
theorem dX5_isRight_208 : decode cX5_isRight 208 = .ok (.invokestatic 48, 3) := by decide +kernel
theorem dX5_isRight_211 : decode cX5_isRight 211 = .ok (.ireturn, 1) := by decide +kernel
theorem dX5_isRight_212 : decode cX5_isRight 212 = .ok (.iconst 1, 1) := by decide +kernel
theorem dX5_isRight_213 : decode cX5_isRight 213 = .ok (.ireturn, 1) := by decide +kernel
set_option maxRecDepth 20000 in
theorem ggX5_step_X5_in : GoodIn wsX5_step wsX5_in := goodIn_r _ [11] (by decide +kernel) (by decide +kernel)
set_option maxRecDepth 20000 in
theorem gX5_step_X5_in : GoodIn wsX5_step (va_wsS RX5 41 yX5_in wsX5_in) := goodIn_app (goodIn_of _ (by decide +kernel)) ggX5_step_X5_in
set_option maxRecDepth 20000 in
theorem ggX5_step_X5_isRight : GoodIn wsX5_step wsX5_isRight := goodIn_r _ [14, 15, 16, 10, 17, 8, 9, 11, 18, 19, 20] (by decide +kernel) (by decide +kernel)
set_option maxRecDepth 20000 in
theorem gX5_step_X5_isRight : GoodIn wsX5_step (va_wsS RX5 60 yX5_isRight wsX5_isRight) := goodIn_app (goodIn_of _ (by decide +kernel)) ggX5_step_X5_isRight
theorem dX5_step_0 : decode cX5_step 0 = .ok (.aload_n 0, 1) := by decide +kernel
theorem dX5_step_1 : decode cX5_step 1 = .ok (.iconst 0, 1) := by decide +kernel
theorem dX5_step_2 : decode cX5_step 2 = .ok (.putfield 37, 3) := by decide +kernel
theorem dX5_step_5 : decode cX5_step 5 = .ok (.iload_n 1, 1) := by decide +kernel
theorem dX5_step_6 : decode cX5_step 6 = .ok (.iconst 0, 1) := by decide +kernel
theorem dX5_step_7 : decode cX5_step 7 = .ok (.bipush 39, 2) := by decide +kernel
theorem dX5_step_9 : decode cX5_step 9 = .ok (.invokestatic 41, 3) := by decide +kernel
theorem dX5_step_12 : decode cX5_step 12 = .ok (.ifCond .eq 26, 3) := by decide +kernel
theorem dX5_step_15 : decode cX5_step 15 = .ok (.iload_n 2, 1) := by decide +kernel
theorem dX5_step_16 : decode cX5_step 16 = .ok (.iconst 0, 1) := by decide +kernel
theorem dX5_step_17 : decode cX5_step 17 = .ok (.bipush 14, 2) := by decide +kernel
theorem dX5_step_19 : decode cX5_step 19 = .ok (.invokestatic 41, 3) := by decide +kernel
theorem dX5_step_22 : decode cX5_step 22 = .ok (.ifCond .eq 16, 3) := by decide +kernel
theorem dX5_step_25 : decode cX5_step 25 = .ok (.iload_n 1, 1) := by decide +kernel
theorem dX5_step_26 : decode cX5_step 26 = .ok (.iload_n 2, 1) := by decide +kernel
theorem dX5_step_27 : decode cX5_step 27 = .ok (.iload_n 3, 1) := by decide +kernel
theorem dX5_step_28 : decode cX5_step 28 = .ok (.iload 4, 2) := by decide +kernel
theorem dX5_step_30 : decode cX5_step 30 = .ok (.iload 5, 2) := by decide +kernel
theorem dX5_step_32 : decode cX5_step 32 = .ok (.invokestatic 60, 3) := by decide +kernel
theorem dX5_step_35 : decode cX5_step 35 = .ok (.ifCond .ne 6, 3) := by decide +kernel
theorem dX5_step_38 : decode cX5_step 38 = .ok (.bipush (-2), 2) := by decide +kernel
theorem dX5_step_40 : decode cX5_step 40 = .ok (.ireturn, 1) := by decide +kernel
theorem dX5_step_41 : decode cX5_step 41 = .ok (.aload_n 0, 1) := by decide +kernel
theorem dX5_step_42 : decode cX5_step 42 = .ok (.getfield 19, 3) := by decide +kernel
theorem dX5_step_45 : decode cX5_step 45 = .ok (.iload_n 1, 1) := by decide +kernel
theorem dX5_step_46 : decode cX5_step 46 = .ok (.iaload, 1) := by decide +kernel
theorem dX5_step_47 : decode cX5_step 47 = .ok (.bipush 12, 2) := by decide +kernel
theorem dX5_step_49 : decode cX5_step 49 = .ok (.if_icmp .eq 13, 3) := by decide +kernel
theorem dX5_step_52 : decode cX5_step 52 = .ok (.aload_n 0, 1) := by decide +kernel
theorem dX5_step_53 : decode cX5_step 53 = .ok (.getfield 64, 3) := by decide +kernel
theorem dX5_step_56 : decode cX5_step 56 = .ok (.sipush 150, 3) := by decide +kernel
theorem dX5_step_59 : decode cX5_step 59 = .ok (.if_icmp .ne 6, 3) := by decide +kernel
theorem dX5_step_62 : decode cX5_step 62 = .ok (.bipush (-3), 2) := by decide +kernel
theorem dX5_step_64 : decode cX5_step 64 = .ok (.ireturn, 1) := by decide +kernel
theorem dX5_step_65 : decode cX5_step 65 = .ok (.bipush 12, 2) := by decide +kernel
theorem dX5_step_67 : decode cX5_step 67 = .ok (.iload_n 1, 1) := by decide +kernel
theorem dX5_step_68 : decode cX5_step 68 = .ok (.imul, 1) := by decide +kernel
theorem dX5_step_69 : decode cX5_step 69 = .ok (.aload_n 0, 1) := by decide +kernel
theorem dX5_step_70 : decode cX5_step 70 = .ok (.getfield 19, 3) := by decide +kernel
theorem dX5_step_73 : decode cX5_step 73 = .ok (.iload_n 1, 1) := by decide +kernel
theorem dX5_step_74 : decode cX5_step 74 = .ok (.iaload, 1) := by decide +kernel
theorem dX5_step_75 : decode cX5_step 75 = .ok (.iadd, 1) := by decide +kernel
theorem dX5_step_76 : decode cX5_step 76 = .ok (.istore 6, 2) := by decide +kernel
theorem dX5_step_78 : decode cX5_step 78 = .ok (.aload_n 0, 1) := by decide +kernel
theorem dX5_step_79 : decode cX5_step 79 = .ok (.getfield 22, 3) := by decide +kernel
theorem dX5_step_82 : decode cX5_step 82 = .ok (.iload 6, 2) := by decide +kernel
theorem dX5_step_84 : decode cX5_step 84 = .ok (.iload_n 2, 1) := by decide +kernel
theorem dX5_step_85 : decode cX5_step 85 = .ok (.iastore, 1) := by decide +kernel
theorem dX5_step_86 : decode cX5_step 86 = .ok (.aload_n 0, 1) := by decide +kernel
theorem dX5_step_87 : decode cX5_step 87 = .ok (.getfield 25, 3) := by decide +kernel
theorem dX5_step_90 : decode cX5_step 90 = .ok (.iload 6, 2) := by decide +kernel
theorem dX5_step_92 : decode cX5_step 92 = .ok (.iload_n 3, 1) := by decide +kernel
theorem dX5_step_93 : decode cX5_step 93 = .ok (.iastore, 1) := by decide +kernel
theorem dX5_step_94 : decode cX5_step 94 = .ok (.aload_n 0, 1) := by decide +kernel
theorem dX5_step_95 : decode cX5_step 95 = .ok (.getfield 28, 3) := by decide +kernel
theorem dX5_step_98 : decode cX5_step 98 = .ok (.iload 6, 2) := by decide +kernel
theorem dX5_step_100 : decode cX5_step 100 = .ok (.iload 4, 2) := by decide +kernel
theorem dX5_step_102 : decode cX5_step 102 = .ok (.iastore, 1) := by decide +kernel
theorem dX5_step_103 : decode cX5_step 103 = .ok (.aload_n 0, 1) := by decide +kernel
theorem dX5_step_104 : decode cX5_step 104 = .ok (.getfield 31, 3) := by decide +kernel
theorem dX5_step_107 : decode cX5_step 107 = .ok (.iload 6, 2) := by decide +kernel
theorem dX5_step_109 : decode cX5_step 109 = .ok (.iload 5, 2) := by decide +kernel
theorem dX5_step_111 : decode cX5_step 111 = .ok (.iastore, 1) := by decide +kernel
theorem dX5_step_112 : decode cX5_step 112 = .ok (.aload_n 0, 1) := by decide +kernel
theorem dX5_step_113 : decode cX5_step 113 = .ok (.getfield 19, 3) := by decide +kernel
theorem dX5_step_116 : decode cX5_step 116 = .ok (.iload_n 1, 1) := by decide +kernel
theorem dX5_step_117 : decode cX5_step 117 = .ok (.dup2, 1) := by decide +kernel
theorem dX5_step_118 : decode cX5_step 118 = .ok (.iaload, 1) := by decide +kernel
theorem dX5_step_119 : decode cX5_step 119 = .ok (.iconst 1, 1) := by decide +kernel
theorem dX5_step_120 : decode cX5_step 120 = .ok (.iadd, 1) := by decide +kernel
theorem dX5_step_121 : decode cX5_step 121 = .ok (.iastore, 1) := by decide +kernel
end
section
theorem dX5_step_122 : decode cX5_step 122 = .ok (.aload_n 0, 1) := by decide +kernel
theorem dX5_step_123 : decode cX5_step 123 = .ok (.dup, 1) := by decide +kernel
theorem dX5_step_124 : decode cX5_step 124 = .ok (.getfield 64, 3) := by decide +kernel
theorem dX5_step_127 : decode cX5_step 127 = .ok (.iconst 1, 1) := by decide +kernel
theorem dX5_step_128 : decode cX5_step 128 = .ok (.iadd, 1) := by decide +kernel
theorem dX5_step_129 : decode cX5_step 129 = .ok (.putfield 64, 3) := by decide +kernel
theorem dX5_step_132 : decode cX5_step 132 = .ok (.aload_n 0, 1) := by decide +kernel
theorem dX5_step_133 : decode cX5_step 133 = .ok (.getfield 19, 3) := by decide +kernel
theorem dX5_step_136 : decode cX5_step 136 = .ok (.iload_n 1, 1) := by decide +kernel
theorem dX5_step_137 : decode cX5_step 137 = .ok (.iaload, 1) := by decide +kernel
theorem dX5_step_138 : decode cX5_step 138 = .ok (.ireturn, 1) := by decide +kernel
set_option maxRecDepth 20000 in
theorem ggX5_clear_X5_in : GoodIn wsX5_clear wsX5_in := goodIn_r _ [7] (by decide +kernel) (by decide +kernel)
set_option maxRecDepth 20000 in
theorem gX5_clear_X5_in : GoodIn wsX5_clear (va_wsS RX5 41 yX5_in wsX5_in) := goodIn_app (goodIn_of _ (by decide +kernel)) ggX5_clear_X5_in
theorem dX5_clear_0 : decode cX5_clear 0 = .ok (.aload_n 0, 1) := by decide +kernel
theorem dX5_clear_1 : decode cX5_clear 1 = .ok (.iconst 0, 1) := by decide +kernel
theorem dX5_clear_2 : decode cX5_clear 2 = .ok (.putfield 37, 3) := by decide +kernel
theorem dX5_clear_5 : decode cX5_clear 5 = .ok (.iload_n 1, 1) := by decide +kernel
theorem dX5_clear_6 : decode cX5_clear 6 = .ok (.iconst 0, 1) := by decide +kernel
theorem dX5_clear_7 : decode cX5_clear 7 = .ok (.bipush 39, 2) := by decide +kernel
theorem dX5_clear_9 : decode cX5_clear 9 = .ok (.invokestatic 41, 3) := by decide +kernel
theorem dX5_clear_12 : decode cX5_clear 12 = .ok (.ifCond .ne 6, 3) := by decide +kernel
theorem dX5_clear_15 : decode cX5_clear 15 = .ok (.bipush (-2), 2) := by decide +kernel
theorem dX5_clear_17 : decode cX5_clear 17 = .ok (.ireturn, 1) := by decide +kernel
theorem dX5_clear_18 : decode cX5_clear 18 = .ok (.aload_n 0, 1) := by decide +kernel
theorem dX5_clear_19 : decode cX5_clear 19 = .ok (.getfield 19, 3) := by decide +kernel
theorem dX5_clear_22 : decode cX5_clear 22 = .ok (.iload_n 1, 1) := by decide +kernel
theorem dX5_clear_23 : decode cX5_clear 23 = .ok (.iaload, 1) := by decide +kernel
theorem dX5_clear_24 : decode cX5_clear 24 = .ok (.istore_n 2, 1) := by decide +kernel
theorem dX5_clear_25 : decode cX5_clear 25 = .ok (.aload_n 0, 1) := by decide +kernel
theorem dX5_clear_26 : decode cX5_clear 26 = .ok (.dup, 1) := by decide +kernel
theorem dX5_clear_27 : decode cX5_clear 27 = .ok (.getfield 64, 3) := by decide +kernel
theorem dX5_clear_30 : decode cX5_clear 30 = .ok (.iload_n 2, 1) := by decide +kernel
theorem dX5_clear_31 : decode cX5_clear 31 = .ok (.isub, 1) := by decide +kernel
theorem dX5_clear_32 : decode cX5_clear 32 = .ok (.putfield 64, 3) := by decide +kernel
theorem dX5_clear_35 : decode cX5_clear 35 = .ok (.aload_n 0, 1) := by decide +kernel
theorem dX5_clear_36 : decode cX5_clear 36 = .ok (.getfield 19, 3) := by decide +kernel
theorem dX5_clear_39 : decode cX5_clear 39 = .ok (.iload_n 1, 1) := by decide +kernel
theorem dX5_clear_40 : decode cX5_clear 40 = .ok (.iconst 0, 1) := by decide +kernel
theorem dX5_clear_41 : decode cX5_clear 41 = .ok (.iastore, 1) := by decide +kernel
theorem dX5_clear_42 : decode cX5_clear 42 = .ok (.iload_n 2, 1) := by decide +kernel
theorem dX5_clear_43 : decode cX5_clear 43 = .ok (.ireturn, 1) := by decide +kernel
theorem dX5_comes_0 : decode cX5_comes 0 = .ok (.aload_n 0, 1) := by decide +kernel
theorem dX5_comes_1 : decode cX5_comes 1 = .ok (.getfield 67, 3) := by decide +kernel
theorem dX5_comes_4 : decode cX5_comes 4 = .ok (.sipush 250, 3) := by decide +kernel
theorem dX5_comes_7 : decode cX5_comes 7 = .ok (.if_icmp .ge 13, 3) := by decide +kernel
theorem dX5_comes_10 : decode cX5_comes 10 = .ok (.aload_n 0, 1) := by decide +kernel
theorem dX5_comes_11 : decode cX5_comes 11 = .ok (.getfield 34, 3) := by decide +kernel
theorem dX5_comes_14 : decode cX5_comes 14 = .ok (.aload_n 0, 1) := by decide +kernel
theorem dX5_comes_15 : decode cX5_comes 15 = .ok (.getfield 67, 3) := by decide +kernel
theorem dX5_comes_18 : decode cX5_comes 18 = .ok (.iload_n 1, 1) := by decide +kernel
theorem dX5_comes_19 : decode cX5_comes 19 = .ok (.iastore, 1) := by decide +kernel
theorem dX5_comes_20 : decode cX5_comes 20 = .ok (.aload_n 0, 1) := by decide +kernel
theorem dX5_comes_21 : decode cX5_comes 21 = .ok (.dup, 1) := by decide +kernel
theorem dX5_comes_22 : decode cX5_comes 22 = .ok (.getfield 67, 3) := by decide +kernel
theorem dX5_comes_25 : decode cX5_comes 25 = .ok (.iconst 1, 1) := by decide +kernel
theorem dX5_comes_26 : decode cX5_comes 26 = .ok (.iadd, 1) := by decide +kernel
theorem dX5_comes_27 : decode cX5_comes 27 = .ok (.putfield 67, 3) := by decide +kernel
theorem dX5_comes_30 : decode cX5_comes 30 = .ok (.return_, 1) := by decide +kernel
set_option maxRecDepth 20000 in
theorem ggX5_begin_X5_comes : GoodIn wsX5_begin wsX5_comes := goodIn_r _ [9, 10, 11, 12, 13, 14, 15, 16, 17, 18, 19, 20, 21, 22, 23, 24, 25, 26, 27, 28, 29, 30, 31, 32, 33] (by decide +kernel) (by decide +kernel)
set_option maxRecDepth 20000 in
theorem gX5_begin_X5_comes : GoodIn wsX5_begin (wsV RX5 79 RX5 yX5_comes wsX5_comes) := goodIn_app (goodIn_of _ (by decide +kernel)) ggX5_begin_X5_comes
theorem dX5_begin_0 : decode cX5_begin 0 = .ok (.aload_n 0, 1) := by decide +kernel
theorem dX5_begin_1 : decode cX5_begin 1 = .ok (.dup, 1) := by decide +kernel
theorem dX5_begin_2 : decode cX5_begin 2 = .ok (.getfield 70, 3) := by decide +kernel
theorem dX5_begin_5 : decode cX5_begin 5 = .ok (.iconst 1, 1) := by decide +kernel
theorem dX5_begin_6 : decode cX5_begin 6 = .ok (.iadd, 1) := by decide +kernel
theorem dX5_begin_7 : decode cX5_begin 7 = .ok (.putfield 70, 3) := by decide +kernel
theorem dX5_begin_10 : decode cX5_begin 10 = .ok (.aload_n 0, 1) := by decide +kernel
theorem dX5_begin_11 : decode cX5_begin 11 = .ok (.dup, 1) := by decide +kernel
theorem dX5_begin_12 : decode cX5_begin 12 = .ok (.getfield 73, 3) := by decide +kernel
theorem dX5_begin_15 : decode cX5_begin 15 = .ok (.iconst 1, 1) := by decide +kernel
theorem dX5_begin_16 : decode cX5_begin 16 = .ok (.iadd, 1) := by decide +kernel
theorem dX5_begin_17 : decode cX5_begin 17 = .ok (.putfield 73, 3) := by decide +kernel
theorem dX5_begin_20 : decode cX5_begin 20 = .ok (.aload_n 0, 1) := by decide +kernel
theorem dX5_begin_21 : decode cX5_begin 21 = .ok (.aload_n 0, 1) := by decide +kernel
theorem dX5_begin_22 : decode cX5_begin 22 = .ok (.getfield 73, 3) := by decide +kernel
theorem dX5_begin_25 : decode cX5_begin 25 = .ok (.aload_n 0, 1) := by decide +kernel
theorem dX5_begin_26 : decode cX5_begin 26 = .ok (.getfield 76, 3) := by decide +kernel
theorem dX5_begin_29 : decode cX5_begin 29 = .ok (.if_icmp .le 10, 3) := by decide +kernel
theorem dX5_begin_32 : decode cX5_begin 32 = .ok (.aload_n 0, 1) := by decide +kernel
theorem dX5_begin_33 : decode cX5_begin 33 = .ok (.getfield 73, 3) := by decide +kernel
theorem dX5_begin_36 : decode cX5_begin 36 = .ok (.goto 7, 3) := by decide +kernel
theorem dX5_begin_39 : decode cX5_begin 39 = .ok (.aload_n 0, 1) := by decide +kernel
theorem dX5_begin_40 : decode cX5_begin 40 = .ok (.getfield 76, 3) := by decide +kernel
theorem dX5_begin_43 : decode cX5_begin 43 = .ok (.putfield 76, 3) := by decide +kernel
theorem dX5_begin_46 : decode cX5_begin 46 = .ok (.aload_n 0, 1) := by decide +kernel
theorem dX5_begin_47 : decode cX5_begin 47 = .ok (.getfield 16, 3) := by decide +kernel
theorem dX5_begin_50 : decode cX5_begin 50 = .ok (.iload_n 1, 1) := by decide +kernel
theorem dX5_begin_51 : decode cX5_begin 51 = .ok (.dup2, 1) := by decide +kernel
theorem dX5_begin_52 : decode cX5_begin 52 = .ok (.iaload, 1) := by decide +kernel
theorem dX5_begin_53 : decode cX5_begin 53 = .ok (.iconst 1, 1) := by decide +kernel
theorem dX5_begin_54 : decode cX5_begin 54 = .ok (.iadd, 1) := by decide +kernel
theorem dX5_begin_55 : decode cX5_begin 55 = .ok (.iastore, 1) := by decide +kernel
theorem dX5_begin_56 : decode cX5_begin 56 = .ok (.aload_n 0, 1) := by decide +kernel
theorem dX5_begin_57 : decode cX5_begin 57 = .ok (.sipush 1000, 3) := by decide +kernel
theorem dX5_begin_60 : decode cX5_begin 60 = .ok (.iload_n 1, 1) := by decide +kernel
theorem dX5_begin_61 : decode cX5_begin 61 = .ok (.iadd, 1) := by decide +kernel
theorem dX5_begin_62 : decode cX5_begin 62 = .ok (.invokevirtual 79, 3) := by decide +kernel
theorem dX5_begin_65 : decode cX5_begin 65 = .ok (.return_, 1) := by decide +kernel
set_option maxRecDepth 20000 in
theorem ggX5_leave_X5_comes : GoodIn wsX5_leave wsX5_comes := goodIn_r _ [8, 9, 10, 11, 12, 13, 14, 15, 16, 17, 18, 19, 20, 21, 22, 23, 24, 25, 26, 27, 28, 29, 30, 31, 32] (by decide +kernel) (by decide +kernel)
set_option maxRecDepth 20000 in
theorem gX5_leave_X5_comes : GoodIn wsX5_leave (wsV RX5 79 RX5 yX5_comes wsX5_comes) := goodIn_app (goodIn_of _ (by decide +kernel)) ggX5_leave_X5_comes
theorem dX5_leave_0 : decode cX5_leave 0 = .ok (.aload_n 0, 1) := by decide +kernel
theorem dX5_leave_1 : decode cX5_leave 1 = .ok (.dup, 1) := by decide +kernel
theorem dX5_leave_2 : decode cX5_leave 2 = .ok (.getfield 73, 3) := by decide +kernel
theorem dX5_leave_5 : decode cX5_leave 5 = .ok (.iconst 1, 1) := by decide +kernel
theorem dX5_leave_6 : decode cX5_leave 6 = .ok (.isub, 1) := by decide +kernel
theorem dX5_leave_7 : decode cX5_leave 7 = .ok (.putfield 73, 3) := by decide +kernel
theorem dX5_leave_10 : decode cX5_leave 10 = .ok (.aload_n 0, 1) := by decide +kernel
theorem dX5_leave_11 : decode cX5_leave 11 = .ok (.getfield 16, 3) := by decide +kernel
theorem dX5_leave_14 : decode cX5_leave 14 = .ok (.iload_n 1, 1) := by decide +kernel
theorem dX5_leave_15 : decode cX5_leave 15 = .ok (.dup2, 1) := by decide +kernel
theorem dX5_leave_16 : decode cX5_leave 16 = .ok (.iaload, 1) := by decide +kernel
theorem dX5_leave_17 : decode cX5_leave 17 = .ok (.iconst 1, 1) := by decide +kernel
theorem dX5_leave_18 : decode cX5_leave 18 = .ok (.isub, 1) := by decide +kernel
theorem dX5_leave_19 : decode cX5_leave 19 = .ok (.iastore, 1) := by decide +kernel
theorem dX5_leave_20 : decode cX5_leave 20 = .ok (.aload_n 0, 1) := by decide +kernel
theorem dX5_leave_21 : decode cX5_leave 21 = .ok (.dup, 1) := by decide +kernel
theorem dX5_leave_22 : decode cX5_leave 22 = .ok (.getfield 83, 3) := by decide +kernel
theorem dX5_leave_25 : decode cX5_leave 25 = .ok (.iload_n 2, 1) := by decide +kernel
theorem dX5_leave_26 : decode cX5_leave 26 = .ok (.iconst 4, 1) := by decide +kernel
theorem dX5_leave_27 : decode cX5_leave 27 = .ok (.if_icmp .lt 7, 3) := by decide +kernel
theorem dX5_leave_30 : decode cX5_leave 30 = .ok (.iconst 1, 1) := by decide +kernel
theorem dX5_leave_31 : decode cX5_leave 31 = .ok (.goto 4, 3) := by decide +kernel
theorem dX5_leave_34 : decode cX5_leave 34 = .ok (.iconst 0, 1) := by decide +kernel
theorem dX5_leave_35 : decode cX5_leave 35 = .ok (.iadd, 1) := by decide +kernel
theorem dX5_leave_36 : decode cX5_leave 36 = .ok (.putfield 83, 3) := by decide +kernel
theorem dX5_leave_39 : decode cX5_leave 39 = .ok (.aload_n 0, 1) := by decide +kernel
theorem dX5_leave_40 : decode cX5_leave 40 = .ok (.sipush 2000, 3) := by decide +kernel
theorem dX5_leave_43 : decode cX5_leave 43 = .ok (.bipush 100, 2) := by decide +kernel
theorem dX5_leave_45 : decode cX5_leave 45 = .ok (.iload_n 2, 1) := by decide +kernel
theorem dX5_leave_46 : decode cX5_leave 46 = .ok (.imul, 1) := by decide +kernel
theorem dX5_leave_47 : decode cX5_leave 47 = .ok (.iadd, 1) := by decide +kernel
theorem dX5_leave_48 : decode cX5_leave 48 = .ok (.iload_n 1, 1) := by decide +kernel
theorem dX5_leave_49 : decode cX5_leave 49 = .ok (.iadd, 1) := by decide +kernel
theorem dX5_leave_50 : decode cX5_leave 50 = .ok (.invokevirtual 79, 3) := by decide +kernel
theorem dX5_leave_53 : decode cX5_leave 53 = .ok (.return_, 1) := by decide +kernel
theorem dX5_throwing_0 : decode cX5_throwing 0 = .ok (.aload_n 0, 1) := by decide +kernel
theorem dX5_throwing_1 : decode cX5_throwing 1 = .ok (.iload_n 1, 1) := by decide +kernel
theorem dX5_throwing_2 : decode cX5_throwing 2 = .ok (.putfield 86, 3) := by decide +kernel
theorem dX5_throwing_5 : decode cX5_throwing 5 = .ok (.iconst 4, 1) := by decide +kernel
theorem dX5_throwing_6 : decode cX5_throwing 6 = .ok (.ireturn, 1) := by decide +kernel
set_option maxRecDepth 20000 in
theorem ggX5_block_X5_doStep : GoodIn wsX5_block wsX5_doStep := goodIn_r _ [14, 15, 16, 17, 18, 19, 13, 20, 21, 22, 23, 24, 6, 25, 26, 27, 28, 29, 30, 31, 8, 32, 33, 34, 35, 36, 37, 38, 39, 40, 41, 42, 43, 44, 45, 46, 47, 48, 49, 50, 51, 52, 53, 54, 55, 56, 57, 58, 59, 60, 61, 62, 63, 64, 65, 66, 67, 68, 69, 70, 71, 72, 0, 1, 2, 3, 4, 5, 7, 9, 10, 11, 12, 73, 74, 75, 76, 77, 78, 79, 80, 81, 82, 83, 84, 85, 86, 87, 88, 89, 90, 91, 92, 93, 94, 95, 96, 97] (by decide +kernel) (by decide +kernel)
set_option maxRecDepth 20000 in
theorem gX5_block_X5_doStep : GoodIn wsX5_block (wsV RX5 92 RX5 yX5_doStep wsX5_doStep) := goodIn_app (goodIn_of _ (by decide +kernel)) ggX5_block_X5_doStep
theorem dX5_block_0 : decode cX5_block 0 = .ok (.iconst 0, 1) := by decide +kernel
theorem dX5_block_1 : decode cX5_block 1 = .ok (.istore_n 2, 1) := by decide +kernel
theorem dX5_block_2 : decode cX5_block 2 = .ok (.iconst 0, 1) := by decide +kernel
theorem dX5_block_3 : decode cX5_block 3 = .ok (.istore_n 3, 1) := by decide +kernel
theorem dX5_block_4 : decode cX5_block 4 = .ok (.iload_n 3, 1) := by decide +kernel
theorem dX5_block_5 : decode cX5_block 5 = .ok (.aload_n 0, 1) := by decide +kernel
theorem dX5_block_6 : decode cX5_block 6 = .ok (.getfield 19, 3) := by decide +kernel
theorem dX5_block_9 : decode cX5_block 9 = .ok (.iload_n 1, 1) := by decide +kernel
theorem dX5_block_10 : decode cX5_block 10 = .ok (.iaload, 1) := by decide +kernel
theorem dX5_block_11 : decode cX5_block 11 = .ok (.if_icmp .ge 46, 3) := by decide +kernel
theorem dX5_block_14 : decode cX5_block 14 = .ok (.iload_n 2, 1) := by decide +kernel
theorem dX5_block_15 : decode cX5_block 15 = .ok (.ifCond .ne 42, 3) := by decide +kernel
theorem dX5_block_18 : decode cX5_block 18 = .ok (.aload_n 0, 1) := by decide +kernel
theorem dX5_block_19 : decode cX5_block 19 = .ok (.getfield 89, 3) := by decide +kernel
theorem dX5_block_22 : decode cX5_block 22 = .ok (.sipush 300, 3) := by decide +kernel
theorem dX5_block_25 : decode cX5_block 25 = .ok (.if_icmp .ne 5, 3) := by decide +kernel
theorem dX5_block_28 : decode cX5_block 28 = .ok (.iconst 5, 1) := by decide +kernel
theorem dX5_block_29 : decode cX5_block 29 = .ok (.ireturn, 1) := by decide +kernel
theorem dX5_block_30 : decode cX5_block 30 = .ok (.aload_n 0, 1) := by decide +kernel
theorem dX5_block_31 : decode cX5_block 31 = .ok (.dup, 1) := by decide +kernel
theorem dX5_block_32 : decode cX5_block 32 = .ok (.getfield 89, 3) := by decide +kernel
theorem dX5_block_35 : decode cX5_block 35 = .ok (.iconst 1, 1) := by decide +kernel
theorem dX5_block_36 : decode cX5_block 36 = .ok (.iadd, 1) := by decide +kernel
theorem dX5_block_37 : decode cX5_block 37 = .ok (.putfield 89, 3) := by decide +kernel
theorem dX5_block_40 : decode cX5_block 40 = .ok (.aload_n 0, 1) := by decide +kernel
theorem dX5_block_41 : decode cX5_block 41 = .ok (.bipush 12, 2) := by decide +kernel
theorem dX5_block_43 : decode cX5_block 43 = .ok (.iload_n 1, 1) := by decide +kernel
theorem dX5_block_44 : decode cX5_block 44 = .ok (.imul, 1) := by decide +kernel
theorem dX5_block_45 : decode cX5_block 45 = .ok (.iload_n 3, 1) := by decide +kernel
theorem dX5_block_46 : decode cX5_block 46 = .ok (.iadd, 1) := by decide +kernel
theorem dX5_block_47 : decode cX5_block 47 = .ok (.invokevirtual 92, 3) := by decide +kernel
theorem dX5_block_50 : decode cX5_block 50 = .ok (.istore_n 2, 1) := by decide +kernel
theorem dX5_block_51 : decode cX5_block 51 = .ok (.iinc 3 1, 3) := by decide +kernel
theorem dX5_block_54 : decode cX5_block 54 = .ok (.goto (-50), 3) := by decide +kernel
theorem dX5_block_57 : decode cX5_block 57 = .ok (.iload_n 2, 1) := by decide +kernel
theorem dX5_block_58 : decode cX5_block 58 = .ok (.ireturn, 1) := by decide +kernel
set_option maxRecDepth 20000 in
theorem ggX5_hold_X5_begin : GoodIn wsX5_hold wsX5_begin := goodIn_r _ [5, 6, 7, 8, 9, 10, 11, 12, 4, 13, 14, 15, 76, 77, 78, 79, 80, 81, 82, 83, 84, 85, 86, 87, 88, 89, 90, 91, 92, 93, 94, 95, 96, 97] (by decide +kernel) (by decide +kernel)
set_option maxRecDepth 20000 in
theorem gX5_hold_X5_begin : GoodIn wsX5_hold (wsV RX5 95 RX5 yX5_begin wsX5_begin) := goodIn_app (goodIn_of _ (by decide +kernel)) ggX5_hold_X5_begin
set_option maxRecDepth 20000 in
theorem ggX5_hold_X5_block : GoodIn wsX5_hold wsX5_block := goodIn_r _ [24, 25, 26, 27, 28, 29, 4, 30, 31, 16, 17, 18, 32, 33, 34, 35, 36, 37, 38, 39, 40, 41, 10, 11, 12, 13, 14, 15, 42, 43, 44, 45, 46, 47, 48, 49, 50, 51, 52, 53, 54, 55, 56, 57, 58, 59, 60, 61, 62, 63, 64, 9, 65, 66, 67, 68, 69, 70, 71, 72, 73, 1, 2, 3, 5, 6, 7, 8, 19, 20, 21, 22, 23, 0, 74, 75, 76, 77, 78, 79, 80, 81, 82, 83, 84, 85, 86, 87, 88, 89, 90, 91, 92, 93, 94, 95, 96, 97] (by decide +kernel) (by decide +kernel)
set_option maxRecDepth 20000 in
theorem gX5_hold_X5_block : GoodIn wsX5_hold (wsV RX5 98 RX5 yX5_block wsX5_block) := goodIn_app (goodIn_of _ (by decide +kernel)) ggX5_hold_X5_block
set_option maxRecDepth 20000 in
theorem ggX5_hold_X5_leave : GoodIn wsX5_hold wsX5_leave := goodIn_r _ [22, 7, 9, 23, 10, 11, 12, 4, 13, 14, 15, 76, 77, 78, 79, 80, 81, 82, 83, 84, 85, 86, 87, 88, 89, 90, 91, 92, 93, 94, 95, 96, 97] (by decide +kernel) (by decide +kernel)
set_option maxRecDepth 20000 in
theorem gX5_hold_X5_leave : GoodIn wsX5_hold (wsV RX5 101 RX5 yX5_leave wsX5_leave) := goodIn_app (goodIn_of _ (by decide +kernel)) ggX5_hold_X5_leave
theorem dX5_hold_0 : decode cX5_hold 0 = .ok (.aload_n 0, 1) := by decide +kernel
theorem dX5_hold_1 : decode cX5_hold 1 = .ok (.iload_n 1, 1) := by decide +kernel
theorem dX5_hold_2 : decode cX5_hold 2 = .ok (.invokevirtual 95, 3) := by decide +kernel
theorem dX5_hold_5 : decode cX5_hold 5 = .ok (.aload_n 0, 1) := by decide +kernel
theorem dX5_hold_6 : decode cX5_hold 6 = .ok (.iload_n 2, 1) := by decide +kernel
theorem dX5_hold_7 : decode cX5_hold 7 = .ok (.invokevirtual 98, 3) := by decide +kernel
theorem dX5_hold_10 : decode cX5_hold 10 = .ok (.istore_n 3, 1) := by decide +kernel
theorem dX5_hold_11 : decode cX5_hold 11 = .ok (.aload_n 0, 1) := by decide +kernel
theorem dX5_hold_12 : decode cX5_hold 12 = .ok (.iload_n 1, 1) := by decide +kernel
theorem dX5_hold_13 : decode cX5_hold 13 = .ok (.iload_n 3, 1) := by decide +kernel
theorem dX5_hold_14 : decode cX5_hold 14 = .ok (.invokevirtual 101, 3) := by decide +kernel
theorem dX5_hold_17 : decode cX5_hold 17 = .ok (.iload_n 3, 1) := by decide +kernel
theorem dX5_hold_18 : decode cX5_hold 18 = .ok (.ireturn, 1) := by decide +kernel
set_option maxRecDepth 20000 in
theorem ggX5_loop_X5_block : GoodIn wsX5_loop wsX5_block := goodIn_r _ [6, 7, 8, 9, 10, 11, 5, 12, 13, 2, 3, 4, 14, 1, 15, 16, 17, 18, 19, 20, 21, 22, 23, 24, 25, 26, 27, 28, 29, 30, 31, 32, 33, 34, 35, 36, 37, 38, 39, 40, 41, 42, 43, 44, 45, 46, 47, 48, 49, 50, 51, 52, 53, 54, 55, 56, 57, 58, 59, 60, 61, 62, 63, 64, 65, 66, 67, 68, 69, 70, 71, 72, 73, 74, 0, 75, 76, 77, 78, 79, 80, 81, 82, 83, 84, 85, 86, 87, 88, 89, 90, 91, 92, 93, 94, 95, 96, 97] (by decide +kernel) (by decide +kernel)
set_option maxRecDepth 20000 in
theorem gX5_loop_X5_block : GoodIn wsX5_loop (wsV RX5 98 RX5 yX5_block wsX5_block) := goodIn_app (goodIn_of _ (by decide +kernel)) ggX5_loop_X5_block
theorem dX5_loop_0 : decode cX5_loop 0 = .ok (.aload_n 0, 1) := by decide +kernel
theorem dX5_loop_1 : decode cX5_loop 1 = .ok (.dup, 1) := by decide +kernel
theorem dX5_loop_2 : decode cX5_loop 2 = .ok (.getfield 105, 3) := by decide +kernel
theorem dX5_loop_5 : decode cX5_loop 5 = .ok (.iconst 1, 1) := by decide +kernel
theorem dX5_loop_6 : decode cX5_loop 6 = .ok (.iadd, 1) := by decide +kernel
theorem dX5_loop_7 : decode cX5_loop 7 = .ok (.putfield 105, 3) := by decide +kernel
theorem dX5_loop_10 : decode cX5_loop 10 = .ok (.iconst 0, 1) := by decide +kernel
theorem dX5_loop_11 : decode cX5_loop 11 = .ok (.istore_n 3, 1) := by decide +kernel
theorem dX5_loop_12 : decode cX5_loop 12 = .ok (.iconst 0, 1) := by decide +kernel
theorem dX5_loop_13 : decode cX5_loop 13 = .ok (.istore 4, 2) := by decide +kernel
theorem dX5_loop_15 : decode cX5_loop 15 = .ok (.iload 4, 2) := by decide +kernel
theorem dX5_loop_17 : decode cX5_loop 17 = .ok (.iload_n 1, 1) := by decide +kernel
theorem dX5_loop_18 : decode cX5_loop 18 = .ok (.if_icmp .ge 30, 3) := by decide +kernel
theorem dX5_loop_21 : decode cX5_loop 21 = .ok (.iload_n 3, 1) := by decide +kernel
theorem dX5_loop_22 : decode cX5_loop 22 = .ok (.ifCond .ne 26, 3) := by decide +kernel
theorem dX5_loop_25 : decode cX5_loop 25 = .ok (.aload_n 0, 1) := by decide +kernel
theorem dX5_loop_26 : decode cX5_loop 26 = .ok (.iload_n 2, 1) := by decide +kernel
theorem dX5_loop_27 : decode cX5_loop 27 = .ok (.invokevirtual 98, 3) := by decide +kernel
theorem dX5_loop_30 : decode cX5_loop 30 = .ok (.istore_n 3, 1) := by decide +kernel
theorem dX5_loop_31 : decode cX5_loop 31 = .ok (.iload_n 3, 1) := by decide +kernel
theorem dX5_loop_32 : decode cX5_loop 32 = .ok (.iconst 2, 1) := by decide +kernel
theorem dX5_loop_33 : decode cX5_loop 33 = .ok (.if_icmp .ne 7, 3) := by decide +kernel
theorem dX5_loop_36 : decode cX5_loop 36 = .ok (.iconst 0, 1) := by decide +kernel
theorem dX5_loop_37 : decode cX5_loop 37 = .ok (.goto 4, 3) := by decide +kernel
theorem dX5_loop_40 : decode cX5_loop 40 = .ok (.iload_n 3, 1) := by decide +kernel
theorem dX5_loop_41 : decode cX5_loop 41 = .ok (.istore_n 3, 1) := by decide +kernel
theorem dX5_loop_42 : decode cX5_loop 42 = .ok (.iinc 4 1, 3) := by decide +kernel
theorem dX5_loop_45 : decode cX5_loop 45 = .ok (.goto (-30), 3) := by decide +kernel
theorem dX5_loop_48 : decode cX5_loop 48 = .ok (.aload_n 0, 1) := by decide +kernel
theorem dX5_loop_49 : decode cX5_loop 49 = .ok (.dup, 1) := by decide +kernel
theorem dX5_loop_50 : decode cX5_loop 50 = .ok (.getfield 105, 3) := by decide +kernel
theorem dX5_loop_53 : decode cX5_loop 53 = .ok (.iconst 1, 1) := by decide +kernel
theorem dX5_loop_54 : decode cX5_loop 54 = .ok (.isub, 1) := by decide +kernel
theorem dX5_loop_55 : decode cX5_loop 55 = .ok (.putfield 105, 3) := by decide +kernel
theorem dX5_loop_58 : decode cX5_loop 58 = .ok (.iload_n 3, 1) := by decide +kernel
theorem dX5_loop_59 : decode cX5_loop 59 = .ok (.iconst 1, 1) := by decide +kernel
theorem dX5_loop_60 : decode cX5_loop 60 = .ok (.if_icmp .ne 7, 3) := by decide +kernel
theorem dX5_loop_63 : decode cX5_loop 63 = .ok (.iconst 0, 1) := by decide +kernel
theorem dX5_loop_64 : decode cX5_loop 64 = .ok (.goto 4, 3) := by decide +kernel
theorem dX5_loop_67 : decode cX5_loop 67 = .ok (.iload_n 3, 1) := by decide +kernel
theorem dX5_loop_68 : decode cX5_loop 68 = .ok (.ireturn, 1) := by decide +kernel
set_option maxRecDepth 20000 in
theorem ggX5_both_X5_block : GoodIn wsX5_both wsX5_block := goodIn_r _ [6, 7, 8, 9, 10, 11, 5, 0, 1, 2, 3, 4, 12, 13, 14, 15, 16, 17, 18, 19, 20, 21, 22, 23, 24, 25, 26, 27, 28, 29, 30, 31, 32, 33, 34, 35, 36, 37, 38, 39, 40, 41, 42, 43, 44, 45, 46, 47, 48, 49, 50, 51, 52, 53, 54, 55, 56, 57, 58, 59, 60, 61, 62, 63, 64, 65, 66, 67, 68, 69, 70, 71, 72, 73, 74, 75, 76, 77, 78, 79, 80, 81, 82, 83, 84, 85, 86, 87, 88, 89, 90, 91, 92, 93, 94, 95, 96, 97] (by decide +kernel) (by decide +kernel)
set_option maxRecDepth 20000 in
theorem gX5_both_X5_block : GoodIn wsX5_both (wsV RX5 98 RX5 yX5_block wsX5_block) := goodIn_app (goodIn_of _ (by decide +kernel)) ggX5_both_X5_block
theorem dX5_both_0 : decode cX5_both 0 = .ok (.aload_n 0, 1) := by decide +kernel
theorem dX5_both_1 : decode cX5_both 1 = .ok (.iload_n 1, 1) := by decide +kernel
theorem dX5_both_2 : decode cX5_both 2 = .ok (.invokevirtual 98, 3) := by decide +kernel
theorem dX5_both_5 : decode cX5_both 5 = .ok (.istore_n 3, 1) := by decide +kernel
theorem dX5_both_6 : decode cX5_both 6 = .ok (.iload_n 3, 1) := by decide +kernel
theorem dX5_both_7 : decode cX5_both 7 = .ok (.iconst 5, 1) := by decide +kernel
theorem dX5_both_8 : decode cX5_both 8 = .ok (.if_icmp .ne 5, 3) := by decide +kernel
theorem dX5_both_11 : decode cX5_both 11 = .ok (.iload_n 3, 1) := by decide +kernel
theorem dX5_both_12 : decode cX5_both 12 = .ok (.ireturn, 1) := by decide +kernel
theorem dX5_both_13 : decode cX5_both 13 = .ok (.aload_n 0, 1) := by decide +kernel
theorem dX5_both_14 : decode cX5_both 14 = .ok (.getfield 86, 3) := by decide +kernel
theorem dX5_both_17 : decode cX5_both 17 = .ok (.istore 4, 2) := by decide +kernel
theorem dX5_both_19 : decode cX5_both 19 = .ok (.aload_n 0, 1) := by decide +kernel
theorem dX5_both_20 : decode cX5_both 20 = .ok (.iload_n 2, 1) := by decide +kernel
theorem dX5_both_21 : decode cX5_both 21 = .ok (.invokevirtual 98, 3) := by decide +kernel
theorem dX5_both_24 : decode cX5_both 24 = .ok (.istore 5, 2) := by decide +kernel
theorem dX5_both_26 : decode cX5_both 26 = .ok (.iload 5, 2) := by decide +kernel
theorem dX5_both_28 : decode cX5_both 28 = .ok (.ifCond .eq 6, 3) := by decide +kernel
theorem dX5_both_31 : decode cX5_both 31 = .ok (.iload 5, 2) := by decide +kernel
theorem dX5_both_33 : decode cX5_both 33 = .ok (.ireturn, 1) := by decide +kernel
theorem dX5_both_34 : decode cX5_both 34 = .ok (.aload_n 0, 1) := by decide +kernel
theorem dX5_both_35 : decode cX5_both 35 = .ok (.iload 4, 2) := by decide +kernel
theorem dX5_both_37 : decode cX5_both 37 = .ok (.putfield 86, 3) := by decide +kernel
theorem dX5_both_40 : decode cX5_both 40 = .ok (.iload_n 3, 1) := by decide +kernel
theorem dX5_both_41 : decode cX5_both 41 = .ok (.ireturn, 1) := by decide +kernel
set_option maxRecDepth 20000 in
theorem ggX5_call_X5_block : GoodIn wsX5_call wsX5_block := goodIn_r _ [6, 7, 8, 9, 10, 11, 5, 12, 13, 2, 3, 4, 0, 1, 14, 15, 16, 17, 18, 19, 20, 21, 22, 23, 24, 25, 26, 27, 28, 29, 30, 31, 32, 33, 34, 35, 36, 37, 38, 39, 40, 41, 42, 43, 44, 45, 46, 47, 48, 49, 50, 51, 52, 53, 54, 55, 56, 57, 58, 59, 60, 61, 62, 63, 64, 65, 66, 67, 68, 69, 70, 71, 72, 73, 74, 75, 76, 77, 78, 79, 80, 81, 82, 83, 84, 85, 86, 87, 88, 89, 90, 91, 92, 93, 94, 95, 96, 97] (by decide +kernel) (by decide +kernel)
set_option maxRecDepth 20000 in
theorem gX5_call_X5_block : GoodIn wsX5_call (wsV RX5 98 RX5 yX5_block wsX5_block) := goodIn_app (goodIn_of _ (by decide +kernel)) ggX5_call_X5_block
theorem dX5_call_0 : decode cX5_call 0 = .ok (.aload_n 0, 1) := by decide +kernel
theorem dX5_call_1 : decode cX5_call 1 = .ok (.getfield 105, 3) := by decide +kernel
theorem dX5_call_4 : decode cX5_call 4 = .ok (.istore_n 2, 1) := by decide +kernel
theorem dX5_call_5 : decode cX5_call 5 = .ok (.aload_n 0, 1) := by decide +kernel
theorem dX5_call_6 : decode cX5_call 6 = .ok (.iconst 0, 1) := by decide +kernel
theorem dX5_call_7 : decode cX5_call 7 = .ok (.putfield 105, 3) := by decide +kernel
theorem dX5_call_10 : decode cX5_call 10 = .ok (.aload_n 0, 1) := by decide +kernel
theorem dX5_call_11 : decode cX5_call 11 = .ok (.iload_n 1, 1) := by decide +kernel
theorem dX5_call_12 : decode cX5_call 12 = .ok (.invokevirtual 98, 3) := by decide +kernel
theorem dX5_call_15 : decode cX5_call 15 = .ok (.istore_n 3, 1) := by decide +kernel
theorem dX5_call_16 : decode cX5_call 16 = .ok (.aload_n 0, 1) := by decide +kernel
theorem dX5_call_17 : decode cX5_call 17 = .ok (.iload_n 2, 1) := by decide +kernel
theorem dX5_call_18 : decode cX5_call 18 = .ok (.putfield 105, 3) := by decide +kernel
theorem dX5_call_21 : decode cX5_call 21 = .ok (.iload_n 3, 1) := by decide +kernel
theorem dX5_call_22 : decode cX5_call 22 = .ok (.iconst 3, 1) := by decide +kernel
theorem dX5_call_23 : decode cX5_call 23 = .ok (.if_icmp .ne 7, 3) := by decide +kernel
theorem dX5_call_26 : decode cX5_call 26 = .ok (.iconst 0, 1) := by decide +kernel
theorem dX5_call_27 : decode cX5_call 27 = .ok (.goto 4, 3) := by decide +kernel
theorem dX5_call_30 : decode cX5_call 30 = .ok (.iload_n 3, 1) := by decide +kernel
theorem dX5_call_31 : decode cX5_call 31 = .ok (.ireturn, 1) := by decide +kernel
set_option maxRecDepth 20000 in
theorem ggX5_tried_X5_block : GoodIn wsX5_tried wsX5_block := goodIn_r _ [7, 8, 9, 10, 11, 12, 6, 13, 2, 3, 4, 5, 14, 1, 15, 16, 17, 18, 19, 20, 21, 22, 23, 24, 25, 26, 27, 28, 29, 30, 31, 32, 33, 34, 35, 36, 37, 38, 39, 40, 41, 42, 43, 44, 45, 46, 47, 48, 49, 50, 51, 52, 53, 54, 55, 56, 57, 58, 59, 60, 61, 62, 63, 64, 65, 66, 67, 68, 69, 70, 71, 72, 73, 74, 75, 0, 76, 77, 78, 79, 80, 81, 82, 83, 84, 85, 86, 87, 88, 89, 90, 91, 92, 93, 94, 95, 96, 97] (by decide +kernel) (by decide +kernel)
set_option maxRecDepth 20000 in
theorem gX5_tried_X5_block : GoodIn wsX5_tried (wsV RX5 98 RX5 yX5_block wsX5_block) := goodIn_app (goodIn_of _ (by decide +kernel)) ggX5_tried_X5_block
theorem dX5_tried_0 : decode cX5_tried 0 = .ok (.aload_n 0, 1) := by decide +kernel
theorem dX5_tried_1 : decode cX5_tried 1 = .ok (.getfield 105, 3) := by decide +kernel
theorem dX5_tried_4 : decode cX5_tried 4 = .ok (.istore 4, 2) := by decide +kernel
theorem dX5_tried_6 : decode cX5_tried 6 = .ok (.aload_n 0, 1) := by decide +kernel
theorem dX5_tried_7 : decode cX5_tried 7 = .ok (.iload_n 2, 1) := by decide +kernel
theorem dX5_tried_8 : decode cX5_tried 8 = .ok (.invokevirtual 98, 3) := by decide +kernel
theorem dX5_tried_11 : decode cX5_tried 11 = .ok (.istore 5, 2) := by decide +kernel
theorem dX5_tried_13 : decode cX5_tried 13 = .ok (.iload 5, 2) := by decide +kernel
theorem dX5_tried_15 : decode cX5_tried 15 = .ok (.iconst 4, 1) := by decide +kernel
theorem dX5_tried_16 : decode cX5_tried 16 = .ok (.if_icmp .ne 15, 3) := by decide +kernel
theorem dX5_tried_19 : decode cX5_tried 19 = .ok (.iload_n 1, 1) := by decide +kernel
theorem dX5_tried_20 : decode cX5_tried 20 = .ok (.ifCond .eq 14, 3) := by decide +kernel
theorem dX5_tried_23 : decode cX5_tried 23 = .ok (.iload_n 1, 1) := by decide +kernel
theorem dX5_tried_24 : decode cX5_tried 24 = .ok (.aload_n 0, 1) := by decide +kernel
theorem dX5_tried_25 : decode cX5_tried 25 = .ok (.getfield 86, 3) := by decide +kernel
theorem dX5_tried_28 : decode cX5_tried 28 = .ok (.if_icmp .eq 6, 3) := by decide +kernel
theorem dX5_tried_31 : decode cX5_tried 31 = .ok (.iload 5, 2) := by decide +kernel
theorem dX5_tried_33 : decode cX5_tried 33 = .ok (.ireturn, 1) := by decide +kernel
theorem dX5_tried_34 : decode cX5_tried 34 = .ok (.aload_n 0, 1) := by decide +kernel
theorem dX5_tried_35 : decode cX5_tried 35 = .ok (.iload 4, 2) := by decide +kernel
theorem dX5_tried_37 : decode cX5_tried 37 = .ok (.putfield 105, 3) := by decide +kernel
theorem dX5_tried_40 : decode cX5_tried 40 = .ok (.aload_n 0, 1) := by decide +kernel
theorem dX5_tried_41 : decode cX5_tried 41 = .ok (.iload_n 3, 1) := by decide +kernel
theorem dX5_tried_42 : decode cX5_tried 42 = .ok (.invokevirtual 98, 3) := by decide +kernel
theorem dX5_tried_45 : decode cX5_tried 45 = .ok (.ireturn, 1) := by decide +kernel
set_option maxRecDepth 20000 in
theorem ggX5_add_X5_throwing : GoodIn wsX5_add wsX5_throwing := goodIn_r _ [7, 8, 9, 10, 11, 12, 13, 14, 15, 16, 17, 18, 19, 20, 21, 22, 23, 24, 25, 26, 27, 28, 29, 30] (by decide +kernel) (by decide +kernel)
set_option maxRecDepth 20000 in
theorem gX5_add_X5_throwing : GoodIn wsX5_add (wsV RX5 108 RX5 yX5_throwing wsX5_throwing) := goodIn_app (goodIn_of _ (by decide +kernel)) ggX5_add_X5_throwing
theorem dX5_add_0 : decode cX5_add 0 = .ok (.iload_n 1, 1) := by decide +kernel
theorem dX5_add_1 : decode cX5_add 1 = .ok (.iconst (-1), 1) := by decide +kernel
theorem dX5_add_2 : decode cX5_add 2 = .ok (.if_icmp .ne 10, 3) := by decide +kernel
theorem dX5_add_5 : decode cX5_add 5 = .ok (.aload_n 0, 1) := by decide +kernel
theorem dX5_add_6 : decode cX5_add 6 = .ok (.bipush 12, 2) := by decide +kernel
theorem dX5_add_8 : decode cX5_add 8 = .ok (.invokevirtual 108, 3) := by decide +kernel
theorem dX5_add_11 : decode cX5_add 11 = .ok (.ireturn, 1) := by decide +kernel
theorem dX5_add_12 : decode cX5_add 12 = .ok (.aload_n 0, 1) := by decide +kernel
theorem dX5_add_13 : decode cX5_add 13 = .ok (.getfield 16, 3) := by decide +kernel
theorem dX5_add_16 : decode cX5_add 16 = .ok (.iload_n 1, 1) := by decide +kernel
theorem dX5_add_17 : decode cX5_add 17 = .ok (.iaload, 1) := by decide +kernel
theorem dX5_add_18 : decode cX5_add 18 = .ok (.ifCond .ne 10, 3) := by decide +kernel
theorem dX5_add_21 : decode cX5_add 21 = .ok (.aload_n 0, 1) := by decide +kernel
theorem dX5_add_22 : decode cX5_add 22 = .ok (.bipush 11, 2) := by decide +kernel
theorem dX5_add_24 : decode cX5_add 24 = .ok (.invokevirtual 108, 3) := by decide +kernel
theorem dX5_add_27 : decode cX5_add 27 = .ok (.ireturn, 1) := by decide +kernel
theorem dX5_add_28 : decode cX5_add 28 = .ok (.aload_n 0, 1) := by decide +kernel
theorem dX5_add_29 : decode cX5_add 29 = .ok (.getfield 13, 3) := by decide +kernel
theorem dX5_add_32 : decode cX5_add 32 = .ok (.iload_n 1, 1) := by decide +kernel
theorem dX5_add_33 : decode cX5_add 33 = .ok (.dup2, 1) := by decide +kernel
theorem dX5_add_34 : decode cX5_add 34 = .ok (.iaload, 1) := by decide +kernel
theorem dX5_add_35 : decode cX5_add 35 = .ok (.iload_n 2, 1) := by decide +kernel
theorem dX5_add_36 : decode cX5_add 36 = .ok (.iadd, 1) := by decide +kernel
theorem dX5_add_37 : decode cX5_add 37 = .ok (.iastore, 1) := by decide +kernel
theorem dX5_add_38 : decode cX5_add 38 = .ok (.iconst 0, 1) := by decide +kernel
theorem dX5_add_39 : decode cX5_add 39 = .ok (.ireturn, 1) := by decide +kernel
set_option maxRecDepth 20000 in
theorem ggX5_sweep_X5_begin : GoodIn wsX5_sweep wsX5_begin := goodIn_r _ [7, 8, 9, 10, 11, 12, 13, 14, 6, 15, 16, 17, 23, 24, 25, 26, 27, 28, 29, 30, 31, 32, 33, 34, 35, 36, 37, 38, 39, 40, 41, 42, 43, 44] (by decide +kernel) (by decide +kernel)
set_option maxRecDepth 20000 in
theorem gX5_sweep_X5_begin : GoodIn wsX5_sweep (wsV RX5 95 RX5 yX5_begin wsX5_begin) := goodIn_app (goodIn_of _ (by decide +kernel)) ggX5_sweep_X5_begin
set_option maxRecDepth 20000 in
theorem ggX5_sweep_X5_leave : GoodIn wsX5_sweep wsX5_leave := goodIn_r _ [21, 9, 11, 22, 12, 13, 14, 6, 15, 16, 17, 23, 24, 25, 26, 27, 28, 29, 30, 31, 32, 33, 34, 35, 36, 37, 38, 39, 40, 41, 42, 43, 44] (by decide +kernel) (by decide +kernel)
set_option maxRecDepth 20000 in
theorem gX5_sweep_X5_leave : GoodIn wsX5_sweep (wsV RX5 101 RX5 yX5_leave wsX5_leave) := goodIn_app (goodIn_of _ (by decide +kernel)) ggX5_sweep_X5_leave
set_option maxRecDepth 20000 in
theorem ggX5_sweep_X5_comes : GoodIn wsX5_sweep wsX5_comes := goodIn_r _ [15, 16, 17, 23, 24, 25, 26, 27, 28, 29, 30, 31, 32, 33, 34, 35, 36, 37, 38, 39, 40, 41, 42, 43, 44] (by decide +kernel) (by decide +kernel)
set_option maxRecDepth 20000 in
theorem gX5_sweep_X5_comes : GoodIn wsX5_sweep (wsV RX5 79 RX5 yX5_comes wsX5_comes) := goodIn_app (goodIn_of _ (by decide +kernel)) ggX5_sweep_X5_comes
theorem dX5_sweep_0 : decode cX5_sweep 0 = .ok (.iconst 0, 1) := by decide +kernel
theorem dX5_sweep_1 : decode cX5_sweep 1 = .ok (.istore_n 2, 1) := by decide +kernel
theorem dX5_sweep_2 : decode cX5_sweep 2 = .ok (.iconst 1, 1) := by decide +kernel
theorem dX5_sweep_3 : decode cX5_sweep 3 = .ok (.istore_n 3, 1) := by decide +kernel
theorem dX5_sweep_4 : decode cX5_sweep 4 = .ok (.iconst 0, 1) := by decide +kernel
theorem dX5_sweep_5 : decode cX5_sweep 5 = .ok (.istore 4, 2) := by decide +kernel
theorem dX5_sweep_7 : decode cX5_sweep 7 = .ok (.iload 4, 2) := by decide +kernel
theorem dX5_sweep_9 : decode cX5_sweep 9 = .ok (.bipush 6, 2) := by decide +kernel
theorem dX5_sweep_11 : decode cX5_sweep 11 = .ok (.if_icmp .ge 78, 3) := by decide +kernel
theorem dX5_sweep_14 : decode cX5_sweep 14 = .ok (.iload_n 3, 1) := by decide +kernel
theorem dX5_sweep_15 : decode cX5_sweep 15 = .ok (.ifCond .eq 74, 3) := by decide +kernel
theorem dX5_sweep_18 : decode cX5_sweep 18 = .ok (.aload_n 0, 1) := by decide +kernel
theorem dX5_sweep_19 : decode cX5_sweep 19 = .ok (.getfield 7, 3) := by decide +kernel
theorem dX5_sweep_22 : decode cX5_sweep 22 = .ok (.iload 4, 2) := by decide +kernel
theorem dX5_sweep_24 : decode cX5_sweep 24 = .ok (.iaload, 1) := by decide +kernel
theorem dX5_sweep_25 : decode cX5_sweep 25 = .ok (.istore 5, 2) := by decide +kernel
theorem dX5_sweep_27 : decode cX5_sweep 27 = .ok (.iload 5, 2) := by decide +kernel
theorem dX5_sweep_29 : decode cX5_sweep 29 = .ok (.iconst (-1), 1) := by decide +kernel
theorem dX5_sweep_30 : decode cX5_sweep 30 = .ok (.if_icmp .eq 53, 3) := by decide +kernel
theorem dX5_sweep_33 : decode cX5_sweep 33 = .ok (.aload_n 0, 1) := by decide +kernel
theorem dX5_sweep_34 : decode cX5_sweep 34 = .ok (.iload 5, 2) := by decide +kernel
theorem dX5_sweep_36 : decode cX5_sweep 36 = .ok (.invokevirtual 95, 3) := by decide +kernel
theorem dX5_sweep_39 : decode cX5_sweep 39 = .ok (.aload_n 0, 1) := by decide +kernel
theorem dX5_sweep_40 : decode cX5_sweep 40 = .ok (.getfield 13, 3) := by decide +kernel
theorem dX5_sweep_43 : decode cX5_sweep 43 = .ok (.iload 5, 2) := by decide +kernel
theorem dX5_sweep_45 : decode cX5_sweep 45 = .ok (.iaload, 1) := by decide +kernel
theorem dX5_sweep_46 : decode cX5_sweep 46 = .ok (.iload_n 1, 1) := by decide +kernel
theorem dX5_sweep_47 : decode cX5_sweep 47 = .ok (.if_icmp .eq 29, 3) := by decide +kernel
theorem dX5_sweep_50 : decode cX5_sweep 50 = .ok (.iload_n 2, 1) := by decide +kernel
theorem dX5_sweep_51 : decode cX5_sweep 51 = .ok (.aload_n 0, 1) := by decide +kernel
theorem dX5_sweep_52 : decode cX5_sweep 52 = .ok (.getfield 13, 3) := by decide +kernel
theorem dX5_sweep_55 : decode cX5_sweep 55 = .ok (.iload 5, 2) := by decide +kernel
theorem dX5_sweep_57 : decode cX5_sweep 57 = .ok (.iaload, 1) := by decide +kernel
theorem dX5_sweep_58 : decode cX5_sweep 58 = .ok (.iadd, 1) := by decide +kernel
theorem dX5_sweep_59 : decode cX5_sweep 59 = .ok (.istore_n 2, 1) := by decide +kernel
theorem dX5_sweep_60 : decode cX5_sweep 60 = .ok (.aload_n 0, 1) := by decide +kernel
theorem dX5_sweep_61 : decode cX5_sweep 61 = .ok (.getfield 13, 3) := by decide +kernel
theorem dX5_sweep_64 : decode cX5_sweep 64 = .ok (.iload 5, 2) := by decide +kernel
theorem dX5_sweep_66 : decode cX5_sweep 66 = .ok (.iaload, 1) := by decide +kernel
theorem dX5_sweep_67 : decode cX5_sweep 67 = .ok (.ifCond .lt 7, 3) := by decide +kernel
theorem dX5_sweep_70 : decode cX5_sweep 70 = .ok (.iconst 1, 1) := by decide +kernel
theorem dX5_sweep_71 : decode cX5_sweep 71 = .ok (.goto 4, 3) := by decide +kernel
theorem dX5_sweep_74 : decode cX5_sweep 74 = .ok (.iconst 0, 1) := by decide +kernel
theorem dX5_sweep_75 : decode cX5_sweep 75 = .ok (.istore_n 3, 1) := by decide +kernel
theorem dX5_sweep_76 : decode cX5_sweep 76 = .ok (.aload_n 0, 1) := by decide +kernel
theorem dX5_sweep_77 : decode cX5_sweep 77 = .ok (.iload 5, 2) := by decide +kernel
theorem dX5_sweep_79 : decode cX5_sweep 79 = .ok (.iconst 0, 1) := by decide +kernel
theorem dX5_sweep_80 : decode cX5_sweep 80 = .ok (.invokevirtual 101, 3) := by decide +kernel
theorem dX5_sweep_83 : decode cX5_sweep 83 = .ok (.iinc 4 1, 3) := by decide +kernel
theorem dX5_sweep_86 : decode cX5_sweep 86 = .ok (.goto (-79), 3) := by decide +kernel
theorem dX5_sweep_89 : decode cX5_sweep 89 = .ok (.aload_n 0, 1) := by decide +kernel
theorem dX5_sweep_90 : decode cX5_sweep 90 = .ok (.sipush 10000, 3) := by decide +kernel
theorem dX5_sweep_93 : decode cX5_sweep 93 = .ok (.iload_n 2, 1) := by decide +kernel
theorem dX5_sweep_94 : decode cX5_sweep 94 = .ok (.iadd, 1) := by decide +kernel
theorem dX5_sweep_95 : decode cX5_sweep 95 = .ok (.invokevirtual 79, 3) := by decide +kernel
theorem dX5_sweep_98 : decode cX5_sweep 98 = .ok (.iconst 0, 1) := by decide +kernel
theorem dX5_sweep_99 : decode cX5_sweep 99 = .ok (.ireturn, 1) := by decide +kernel
set_option maxRecDepth 20000 in
theorem ggX5_doStep_X5_comes : GoodIn wsX5_doStep wsX5_comes := goodIn_r _ [13, 14, 15, 76, 77, 78, 79, 80, 81, 82, 83, 84, 85, 86, 87, 88, 89, 90, 91, 92, 93, 94, 95, 96, 97] (by decide +kernel) (by decide +kernel)
set_option maxRecDepth 20000 in
theorem gX5_doStep_X5_comes : GoodIn wsX5_doStep (wsV RX5 79 RX5 yX5_comes wsX5_comes) := goodIn_app (goodIn_of _ (by decide +kernel)) ggX5_doStep_X5_comes
set_option maxRecDepth 20000 in
theorem ggX5_doStep_X5_throwing : GoodIn wsX5_doStep wsX5_throwing := goodIn_r _ [19, 20, 76, 77, 78, 79, 80, 81, 82, 83, 84, 85, 86, 87, 88, 89, 90, 91, 92, 93, 94, 95, 96, 97] (by decide +kernel) (by decide +kernel)
set_option maxRecDepth 20000 in
theorem gX5_doStep_X5_throwing : GoodIn wsX5_doStep (wsV RX5 108 RX5 yX5_throwing wsX5_throwing) := goodIn_app (goodIn_of _ (by decide +kernel)) ggX5_doStep_X5_throwing
set_option maxRecDepth 20000 in
theorem ggX5_doStep_X5_hold : GoodIn wsX5_doStep wsX5_hold := goodIn_r _ [73, 50, 51, 52, 12, 53, 54, 55, 56, 40, 9, 10, 11, 13, 14, 15, 69, 70, 71, 57, 58, 59, 60, 61, 62, 63, 64, 65, 66, 67, 68, 20, 72, 6, 0, 1, 2, 3, 4, 5, 7, 8, 16, 17, 18, 19, 21, 22, 23, 24, 25, 26, 27, 28, 29, 30, 31, 32, 33, 34, 35, 36, 37, 38, 39, 41, 42, 43, 44, 45, 46, 47, 48, 49, 74, 75, 76, 77, 78, 79, 80, 81, 82, 83, 84, 85, 86, 87, 88, 89, 90, 91, 92, 93, 94, 95, 96, 97] (by decide +kernel) (by decide +kernel)
set_option maxRecDepth 20000 in
theorem gX5_doStep_X5_hold : GoodIn wsX5_doStep (wsV RX5 114 RX5 yX5_hold wsX5_hold) := goodIn_app (goodIn_of _ (by decide +kernel)) ggX5_doStep_X5_hold
set_option maxRecDepth 20000 in
theorem ggX5_doStep_X5_loop : GoodIn wsX5_doStep wsX5_loop := goodIn_r _ [74, 6, 69, 70, 71, 12, 62, 63, 64, 65, 66, 67, 68, 20, 72, 0, 1, 2, 3, 4, 5, 7, 8, 9, 10, 11, 13, 14, 15, 16, 17, 18, 19, 21, 22, 23, 24, 25, 26, 27, 28, 29, 30, 31, 32, 33, 34, 35, 36, 37, 38, 39, 40, 41, 42, 43, 44, 45, 46, 47, 48, 49, 50, 51, 52, 53, 54, 55, 56, 57, 58, 59, 60, 61, 73, 75, 76, 77, 78, 79, 80, 81, 82, 83, 84, 85, 86, 87, 88, 89, 90, 91, 92, 93, 94, 95, 96, 97] (by decide +kernel) (by decide +kernel)
set_option maxRecDepth 20000 in
theorem gX5_doStep_X5_loop : GoodIn wsX5_doStep (wsV RX5 118 RX5 yX5_loop wsX5_loop) := goodIn_app (goodIn_of _ (by decide +kernel)) ggX5_doStep_X5_loop
set_option maxRecDepth 20000 in
theorem ggX5_doStep_X5_tried : GoodIn wsX5_doStep wsX5_tried := goodIn_r _ [75, 6, 20, 69, 70, 71, 12, 62, 63, 64, 65, 66, 67, 68, 72, 0, 1, 2, 3, 4, 5, 7, 8, 9, 10, 11, 13, 14, 15, 16, 17, 18, 19, 21, 22, 23, 24, 25, 26, 27, 28, 29, 30, 31, 32, 33, 34, 35, 36, 37, 38, 39, 40, 41, 42, 43, 44, 45, 46, 47, 48, 49, 50, 51, 52, 53, 54, 55, 56, 57, 58, 59, 60, 61, 73, 74, 76, 77, 78, 79, 80, 81, 82, 83, 84, 85, 86, 87, 88, 89, 90, 91, 92, 93, 94, 95, 96, 97] (by decide +kernel) (by decide +kernel)
set_option maxRecDepth 20000 in
theorem gX5_doStep_X5_tried : GoodIn wsX5_doStep (wsV RX5 121 RX5 yX5_tried wsX5_tried) := goodIn_app (goodIn_of _ (by decide +kernel)) ggX5_doStep_X5_tried
set_option maxRecDepth 20000 in
theorem ggX5_doStep_X5_both : GoodIn wsX5_doStep wsX5_both := goodIn_r _ [68, 20, 69, 70, 71, 12, 62, 63, 64, 65, 66, 67, 72, 6, 0, 1, 2, 3, 4, 5, 7, 8, 9, 10, 11, 13, 14, 15, 16, 17, 18, 19, 21, 22, 23, 24, 25, 26, 27, 28, 29, 30, 31, 32, 33, 34, 35, 36, 37, 38, 39, 40, 41, 42, 43, 44, 45, 46, 47, 48, 49, 50, 51, 52, 53, 54, 55, 56, 57, 58, 59, 60, 61, 73, 74, 75, 76, 77, 78, 79, 80, 81, 82, 83, 84, 85, 86, 87, 88, 89, 90, 91, 92, 93, 94, 95, 96, 97] (by decide +kernel) (by decide +kernel)
set_option maxRecDepth 20000 in
theorem gX5_doStep_X5_both : GoodIn wsX5_doStep (wsV RX5 125 RX5 yX5_both wsX5_both) := goodIn_app (goodIn_of _ (by decide +kernel)) ggX5_doStep_X5_both
set_option maxRecDepth 20000 in
theorem ggX5_doStep_X5_call : GoodIn wsX5_doStep wsX5_call := goodIn_r _ [72, 6, 69, 70, 71, 12, 62, 63, 64, 65, 66, 67, 68, 20, 0, 1, 2, 3, 4, 5, 7, 8, 9, 10, 11, 13, 14, 15, 16, 17, 18, 19, 21, 22, 23, 24, 25, 26, 27, 28, 29, 30, 31, 32, 33, 34, 35, 36, 37, 38, 39, 40, 41, 42, 43, 44, 45, 46, 47, 48, 49, 50, 51, 52, 53, 54, 55, 56, 57, 58, 59, 60, 61, 73, 74, 75, 76, 77, 78, 79, 80, 81, 82, 83, 84, 85, 86, 87, 88, 89, 90, 91, 92, 93, 94, 95, 96, 97] (by decide +kernel) (by decide +kernel)
set_option maxRecDepth 20000 in
theorem gX5_doStep_X5_call : GoodIn wsX5_doStep (wsV RX5 128 RX5 yX5_call wsX5_call) := goodIn_app (goodIn_of _ (by decide +kernel)) ggX5_doStep_X5_call
set_option maxRecDepth 20000 in
theorem ggX5_doStep_X5_add : GoodIn wsX5_doStep wsX5_add := goodIn_r _ [39, 40, 41, 16, 17, 18, 12, 19, 20, 76, 77, 78, 79, 80, 81, 82, 83, 84, 85, 86, 87, 88, 89, 90, 91, 92, 93, 94, 95, 96, 97] (by decide +kernel) (by decide +kernel)
set_option maxRecDepth 20000 in
theorem gX5_doStep_X5_add : GoodIn wsX5_doStep (wsV RX5 131 RX5 yX5_add wsX5_add) := goodIn_app (goodIn_of _ (by decide +kernel)) ggX5_doStep_X5_add
set_option maxRecDepth 20000 in
theorem ggX5_doStep_X5_made : GoodIn wsX5_doStep wsX5_made := goodIn_r _ [45, 41, 8, 40, 4, 76, 77, 78, 79, 80, 81, 82, 83, 84, 85, 86, 87, 88, 89, 90, 91, 92, 93, 94, 95, 96, 97] (by decide +kernel) (by decide +kernel)
set_option maxRecDepth 20000 in
theorem gX5_doStep_X5_made : GoodIn wsX5_doStep (wsV RX5 52 RX5 yX5_made wsX5_made) := goodIn_app (goodIn_of _ (by decide +kernel)) ggX5_doStep_X5_made
set_option maxRecDepth 20000 in
theorem ggX5_doStep_X5_sweep : GoodIn wsX5_doStep wsX5_sweep := goodIn_r _ [49, 4, 41, 50, 51, 52, 12, 53, 54, 55, 56, 40, 9, 10, 11, 13, 14, 15, 57, 58, 59, 60, 61, 76, 77, 78, 79, 80, 81, 82, 83, 84, 85, 86, 87, 88, 89, 90, 91, 92, 93, 94, 95, 96, 97] (by decide +kernel) (by decide +kernel)
set_option maxRecDepth 20000 in
theorem gX5_doStep_X5_sweep : GoodIn wsX5_doStep (wsV RX5 134 RX5 yX5_sweep wsX5_sweep) := goodIn_app (goodIn_of _ (by decide +kernel)) ggX5_doStep_X5_sweep
theorem dX5_doStep_0 : decode cX5_doStep 0 = .ok (.aload_n 0, 1) := by decide +kernel
theorem dX5_doStep_1 : decode cX5_doStep 1 = .ok (.getfield 25, 3) := by decide +kernel
theorem dX5_doStep_4 : decode cX5_doStep 4 = .ok (.iload_n 1, 1) := by decide +kernel
theorem dX5_doStep_5 : decode cX5_doStep 5 = .ok (.iaload, 1) := by decide +kernel
theorem dX5_doStep_6 : decode cX5_doStep 6 = .ok (.istore_n 2, 1) := by decide +kernel
theorem dX5_doStep_7 : decode cX5_doStep 7 = .ok (.aload_n 0, 1) := by decide +kernel
theorem dX5_doStep_8 : decode cX5_doStep 8 = .ok (.getfield 28, 3) := by decide +kernel
theorem dX5_doStep_11 : decode cX5_doStep 11 = .ok (.iload_n 1, 1) := by decide +kernel
theorem dX5_doStep_12 : decode cX5_doStep 12 = .ok (.iaload, 1) := by decide +kernel
theorem dX5_doStep_13 : decode cX5_doStep 13 = .ok (.istore_n 3, 1) := by decide +kernel
theorem dX5_doStep_14 : decode cX5_doStep 14 = .ok (.aload_n 0, 1) := by decide +kernel
theorem dX5_doStep_15 : decode cX5_doStep 15 = .ok (.getfield 22, 3) := by decide +kernel
theorem dX5_doStep_18 : decode cX5_doStep 18 = .ok (.iload_n 1, 1) := by decide +kernel
theorem dX5_doStep_19 : decode cX5_doStep 19 = .ok (.iaload, 1) := by decide +kernel
theorem dX5_doStep_20 : decode cX5_doStep 20 = .ok (.tableswitch 253 0 13 #[72, 83, 122, 129, 142, 155, 157, 163, 176, 188, 194, 206, 220, 244], 72) := by decide +kernel
theorem dX5_doStep_92 : decode cX5_doStep 92 = .ok (.aload_n 0, 1) := by decide +kernel
theorem dX5_doStep_93 : decode cX5_doStep 93 = .ok (.sipush 10000, 3) := by decide +kernel
theorem dX5_doStep_96 : decode cX5_doStep 96 = .ok (.iload_n 2, 1) := by decide +kernel
theorem dX5_doStep_97 : decode cX5_doStep 97 = .ok (.iadd, 1) := by decide +kernel
theorem dX5_doStep_98 : decode cX5_doStep 98 = .ok (.invokevirtual 79, 3) := by decide +kernel
theorem dX5_doStep_101 : decode cX5_doStep 101 = .ok (.iconst 0, 1) := by decide +kernel
theorem dX5_doStep_102 : decode cX5_doStep 102 = .ok (.ireturn, 1) := by decide +kernel
theorem dX5_doStep_103 : decode cX5_doStep 103 = .ok (.aload_n 0, 1) := by decide +kernel
theorem dX5_doStep_104 : decode cX5_doStep 104 = .ok (.getfield 7, 3) := by decide +kernel
theorem dX5_doStep_107 : decode cX5_doStep 107 = .ok (.iload_n 2, 1) := by decide +kernel
theorem dX5_doStep_108 : decode cX5_doStep 108 = .ok (.iaload, 1) := by decide +kernel
theorem dX5_doStep_109 : decode cX5_doStep 109 = .ok (.iconst (-1), 1) := by decide +kernel
theorem dX5_doStep_110 : decode cX5_doStep 110 = .ok (.if_icmp .ne 20, 3) := by decide +kernel
theorem dX5_doStep_113 : decode cX5_doStep 113 = .ok (.aload_n 0, 1) := by decide +kernel
theorem dX5_doStep_114 : decode cX5_doStep 114 = .ok (.dup, 1) := by decide +kernel
theorem dX5_doStep_115 : decode cX5_doStep 115 = .ok (.getfield 111, 3) := by decide +kernel
theorem dX5_doStep_118 : decode cX5_doStep 118 = .ok (.iconst 1, 1) := by decide +kernel
theorem dX5_doStep_119 : decode cX5_doStep 119 = .ok (.iadd, 1) := by decide +kernel
theorem dX5_doStep_120 : decode cX5_doStep 120 = .ok (.putfield 111, 3) := by decide +kernel
theorem dX5_doStep_123 : decode cX5_doStep 123 = .ok (.aload_n 0, 1) := by decide +kernel
theorem dX5_doStep_124 : decode cX5_doStep 124 = .ok (.bipush 12, 2) := by decide +kernel
theorem dX5_doStep_126 : decode cX5_doStep 126 = .ok (.invokevirtual 108, 3) := by decide +kernel
theorem dX5_doStep_129 : decode cX5_doStep 129 = .ok (.ireturn, 1) := by decide +kernel
theorem dX5_doStep_130 : decode cX5_doStep 130 = .ok (.aload_n 0, 1) := by decide +kernel
theorem dX5_doStep_131 : decode cX5_doStep 131 = .ok (.aload_n 0, 1) := by decide +kernel
theorem dX5_doStep_132 : decode cX5_doStep 132 = .ok (.getfield 7, 3) := by decide +kernel
theorem dX5_doStep_135 : decode cX5_doStep 135 = .ok (.iload_n 2, 1) := by decide +kernel
theorem dX5_doStep_136 : decode cX5_doStep 136 = .ok (.iaload, 1) := by decide +kernel
theorem dX5_doStep_137 : decode cX5_doStep 137 = .ok (.iload_n 3, 1) := by decide +kernel
theorem dX5_doStep_138 : decode cX5_doStep 138 = .ok (.invokevirtual 114, 3) := by decide +kernel
theorem dX5_doStep_141 : decode cX5_doStep 141 = .ok (.ireturn, 1) := by decide +kernel
theorem dX5_doStep_142 : decode cX5_doStep 142 = .ok (.aload_n 0, 1) := by decide +kernel
theorem dX5_doStep_143 : decode cX5_doStep 143 = .ok (.iload_n 2, 1) := by decide +kernel
theorem dX5_doStep_144 : decode cX5_doStep 144 = .ok (.iload_n 3, 1) := by decide +kernel
theorem dX5_doStep_145 : decode cX5_doStep 145 = .ok (.invokevirtual 118, 3) := by decide +kernel
theorem dX5_doStep_148 : decode cX5_doStep 148 = .ok (.ireturn, 1) := by decide +kernel
theorem dX5_doStep_149 : decode cX5_doStep 149 = .ok (.aload_n 0, 1) := by decide +kernel
theorem dX5_doStep_150 : decode cX5_doStep 150 = .ok (.getfield 105, 3) := by decide +kernel
theorem dX5_doStep_153 : decode cX5_doStep 153 = .ok (.ifCond .le 7, 3) := by decide +kernel
theorem dX5_doStep_156 : decode cX5_doStep 156 = .ok (.iconst 1, 1) := by decide +kernel
theorem dX5_doStep_157 : decode cX5_doStep 157 = .ok (.goto 4, 3) := by decide +kernel
theorem dX5_doStep_160 : decode cX5_doStep 160 = .ok (.iconst 3, 1) := by decide +kernel
theorem dX5_doStep_161 : decode cX5_doStep 161 = .ok (.ireturn, 1) := by decide +kernel
theorem dX5_doStep_162 : decode cX5_doStep 162 = .ok (.aload_n 0, 1) := by decide +kernel
theorem dX5_doStep_163 : decode cX5_doStep 163 = .ok (.getfield 105, 3) := by decide +kernel
theorem dX5_doStep_166 : decode cX5_doStep 166 = .ok (.ifCond .le 7, 3) := by decide +kernel
theorem dX5_doStep_169 : decode cX5_doStep 169 = .ok (.iconst 2, 1) := by decide +kernel
theorem dX5_doStep_170 : decode cX5_doStep 170 = .ok (.goto 4, 3) := by decide +kernel
theorem dX5_doStep_173 : decode cX5_doStep 173 = .ok (.iconst 3, 1) := by decide +kernel
theorem dX5_doStep_174 : decode cX5_doStep 174 = .ok (.ireturn, 1) := by decide +kernel
theorem dX5_doStep_175 : decode cX5_doStep 175 = .ok (.iconst 3, 1) := by decide +kernel
theorem dX5_doStep_176 : decode cX5_doStep 176 = .ok (.ireturn, 1) := by decide +kernel
theorem dX5_doStep_177 : decode cX5_doStep 177 = .ok (.aload_n 0, 1) := by decide +kernel
theorem dX5_doStep_178 : decode cX5_doStep 178 = .ok (.iload_n 2, 1) := by decide +kernel
theorem dX5_doStep_179 : decode cX5_doStep 179 = .ok (.invokevirtual 108, 3) := by decide +kernel
theorem dX5_doStep_182 : decode cX5_doStep 182 = .ok (.ireturn, 1) := by decide +kernel
theorem dX5_doStep_183 : decode cX5_doStep 183 = .ok (.aload_n 0, 1) := by decide +kernel
theorem dX5_doStep_184 : decode cX5_doStep 184 = .ok (.iload_n 2, 1) := by decide +kernel
theorem dX5_doStep_185 : decode cX5_doStep 185 = .ok (.iload_n 3, 1) := by decide +kernel
theorem dX5_doStep_186 : decode cX5_doStep 186 = .ok (.aload_n 0, 1) := by decide +kernel
theorem dX5_doStep_187 : decode cX5_doStep 187 = .ok (.getfield 31, 3) := by decide +kernel
theorem dX5_doStep_190 : decode cX5_doStep 190 = .ok (.iload_n 1, 1) := by decide +kernel
theorem dX5_doStep_191 : decode cX5_doStep 191 = .ok (.iaload, 1) := by decide +kernel
theorem dX5_doStep_192 : decode cX5_doStep 192 = .ok (.invokevirtual 121, 3) := by decide +kernel
theorem dX5_doStep_195 : decode cX5_doStep 195 = .ok (.ireturn, 1) := by decide +kernel
theorem dX5_doStep_196 : decode cX5_doStep 196 = .ok (.aload_n 0, 1) := by decide +kernel
theorem dX5_doStep_197 : decode cX5_doStep 197 = .ok (.iload_n 3, 1) := by decide +kernel
theorem dX5_doStep_198 : decode cX5_doStep 198 = .ok (.aload_n 0, 1) := by decide +kernel
theorem dX5_doStep_199 : decode cX5_doStep 199 = .ok (.getfield 31, 3) := by decide +kernel
theorem dX5_doStep_202 : decode cX5_doStep 202 = .ok (.iload_n 1, 1) := by decide +kernel
theorem dX5_doStep_203 : decode cX5_doStep 203 = .ok (.iaload, 1) := by decide +kernel
theorem dX5_doStep_204 : decode cX5_doStep 204 = .ok (.invokevirtual 125, 3) := by decide +kernel
theorem dX5_doStep_207 : decode cX5_doStep 207 = .ok (.ireturn, 1) := by decide +kernel
theorem dX5_doStep_208 : decode cX5_doStep 208 = .ok (.aload_n 0, 1) := by decide +kernel
theorem dX5_doStep_209 : decode cX5_doStep 209 = .ok (.iload_n 3, 1) := by decide +kernel
theorem dX5_doStep_210 : decode cX5_doStep 210 = .ok (.invokevirtual 128, 3) := by decide +kernel
theorem dX5_doStep_213 : decode cX5_doStep 213 = .ok (.ireturn, 1) := by decide +kernel
theorem dX5_doStep_214 : decode cX5_doStep 214 = .ok (.aload_n 0, 1) := by decide +kernel
theorem dX5_doStep_215 : decode cX5_doStep 215 = .ok (.aload_n 0, 1) := by decide +kernel
theorem dX5_doStep_216 : decode cX5_doStep 216 = .ok (.getfield 7, 3) := by decide +kernel
theorem dX5_doStep_219 : decode cX5_doStep 219 = .ok (.iload_n 3, 1) := by decide +kernel
theorem dX5_doStep_220 : decode cX5_doStep 220 = .ok (.iaload, 1) := by decide +kernel
end
section
theorem dX5_doStep_221 : decode cX5_doStep 221 = .ok (.iload_n 2, 1) := by decide +kernel
theorem dX5_doStep_222 : decode cX5_doStep 222 = .ok (.invokevirtual 131, 3) := by decide +kernel
theorem dX5_doStep_225 : decode cX5_doStep 225 = .ok (.ireturn, 1) := by decide +kernel
theorem dX5_doStep_226 : decode cX5_doStep 226 = .ok (.aload_n 0, 1) := by decide +kernel
theorem dX5_doStep_227 : decode cX5_doStep 227 = .ok (.getfield 7, 3) := by decide +kernel
theorem dX5_doStep_230 : decode cX5_doStep 230 = .ok (.iload_n 2, 1) := by decide +kernel
theorem dX5_doStep_231 : decode cX5_doStep 231 = .ok (.aload_n 0, 1) := by decide +kernel
theorem dX5_doStep_232 : decode cX5_doStep 232 = .ok (.getfield 7, 3) := by decide +kernel
theorem dX5_doStep_235 : decode cX5_doStep 235 = .ok (.iload_n 3, 1) := by decide +kernel
theorem dX5_doStep_236 : decode cX5_doStep 236 = .ok (.iaload, 1) := by decide +kernel
theorem dX5_doStep_237 : decode cX5_doStep 237 = .ok (.iastore, 1) := by decide +kernel
theorem dX5_doStep_238 : decode cX5_doStep 238 = .ok (.iconst 0, 1) := by decide +kernel
theorem dX5_doStep_239 : decode cX5_doStep 239 = .ok (.ireturn, 1) := by decide +kernel
theorem dX5_doStep_240 : decode cX5_doStep 240 = .ok (.aload_n 0, 1) := by decide +kernel
theorem dX5_doStep_241 : decode cX5_doStep 241 = .ok (.getfield 45, 3) := by decide +kernel
theorem dX5_doStep_244 : decode cX5_doStep 244 = .ok (.bipush 60, 2) := by decide +kernel
theorem dX5_doStep_246 : decode cX5_doStep 246 = .ok (.if_icmp .ne 10, 3) := by decide +kernel
theorem dX5_doStep_249 : decode cX5_doStep 249 = .ok (.aload_n 0, 1) := by decide +kernel
theorem dX5_doStep_250 : decode cX5_doStep 250 = .ok (.bipush 13, 2) := by decide +kernel
theorem dX5_doStep_252 : decode cX5_doStep 252 = .ok (.invokevirtual 108, 3) := by decide +kernel
theorem dX5_doStep_255 : decode cX5_doStep 255 = .ok (.ireturn, 1) := by decide +kernel
theorem dX5_doStep_256 : decode cX5_doStep 256 = .ok (.aload_n 0, 1) := by decide +kernel
theorem dX5_doStep_257 : decode cX5_doStep 257 = .ok (.iload_n 2, 1) := by decide +kernel
theorem dX5_doStep_258 : decode cX5_doStep 258 = .ok (.invokevirtual 52, 3) := by decide +kernel
theorem dX5_doStep_261 : decode cX5_doStep 261 = .ok (.pop, 1) := by decide +kernel
theorem dX5_doStep_262 : decode cX5_doStep 262 = .ok (.iconst 0, 1) := by decide +kernel
theorem dX5_doStep_263 : decode cX5_doStep 263 = .ok (.ireturn, 1) := by decide +kernel
theorem dX5_doStep_264 : decode cX5_doStep 264 = .ok (.aload_n 0, 1) := by decide +kernel
theorem dX5_doStep_265 : decode cX5_doStep 265 = .ok (.getfield 7, 3) := by decide +kernel
theorem dX5_doStep_268 : decode cX5_doStep 268 = .ok (.iload_n 2, 1) := by decide +kernel
theorem dX5_doStep_269 : decode cX5_doStep 269 = .ok (.iconst (-1), 1) := by decide +kernel
theorem dX5_doStep_270 : decode cX5_doStep 270 = .ok (.iastore, 1) := by decide +kernel
theorem dX5_doStep_271 : decode cX5_doStep 271 = .ok (.iconst 0, 1) := by decide +kernel
theorem dX5_doStep_272 : decode cX5_doStep 272 = .ok (.ireturn, 1) := by decide +kernel
theorem dX5_doStep_273 : decode cX5_doStep 273 = .ok (.aload_n 0, 1) := by decide +kernel
theorem dX5_doStep_274 : decode cX5_doStep 274 = .ok (.iload_n 2, 1) := by decide +kernel
theorem dX5_doStep_275 : decode cX5_doStep 275 = .ok (.invokevirtual 134, 3) := by decide +kernel
theorem dX5_doStep_278 : decode cX5_doStep 278 = .ok (.ireturn, 1) := by decide +kernel
set_option maxRecDepth 20000 in
theorem ggX5_run_X5_block : GoodIn wsX5_run wsX5_block := goodIn_r _ [16, 17, 5, 18, 19, 20, 15, 21, 11, 12, 13, 14, 22, 10, 23, 24, 25, 26, 27, 2, 28, 29, 30, 31, 32, 33, 4, 34, 35, 36, 37, 38, 39, 40, 41, 42, 43, 44, 45, 46, 47, 48, 49, 50, 51, 52, 53, 54, 55, 56, 57, 58, 59, 60, 61, 62, 63, 64, 65, 66, 67, 68, 69, 70, 71, 6, 9, 7, 72, 73, 74, 75, 8, 76, 77, 78, 79, 80, 81, 82, 83, 84, 85, 86, 87, 88, 89, 90, 91, 92, 93, 94, 95, 96, 97, 98, 99, 100] (by decide +kernel) (by decide +kernel)
set_option maxRecDepth 20000 in
theorem gX5_run_X5_block : GoodIn wsX5_run (wsV RX5 98 RX5 yX5_block wsX5_block) := goodIn_app (goodIn_of _ (by decide +kernel)) ggX5_run_X5_block
theorem dX5_run_0 : decode cX5_run 0 = .ok (.aload_n 0, 1) := by decide +kernel
theorem dX5_run_1 : decode cX5_run 1 = .ok (.iconst 0, 1) := by decide +kernel
theorem dX5_run_2 : decode cX5_run 2 = .ok (.putfield 37, 3) := by decide +kernel
theorem dX5_run_5 : decode cX5_run 5 = .ok (.aload_n 0, 1) := by decide +kernel
theorem dX5_run_6 : decode cX5_run 6 = .ok (.getfield 111, 3) := by decide +kernel
theorem dX5_run_9 : decode cX5_run 9 = .ok (.sipush 1500, 3) := by decide +kernel
theorem dX5_run_12 : decode cX5_run 12 = .ok (.if_icmp .lt 6, 3) := by decide +kernel
theorem dX5_run_15 : decode cX5_run 15 = .ok (.bipush (-3), 2) := by decide +kernel
theorem dX5_run_17 : decode cX5_run 17 = .ok (.ireturn, 1) := by decide +kernel
theorem dX5_run_18 : decode cX5_run 18 = .ok (.aload_n 0, 1) := by decide +kernel
theorem dX5_run_19 : decode cX5_run 19 = .ok (.dup, 1) := by decide +kernel
theorem dX5_run_20 : decode cX5_run 20 = .ok (.getfield 137, 3) := by decide +kernel
theorem dX5_run_23 : decode cX5_run 23 = .ok (.iconst 1, 1) := by decide +kernel
theorem dX5_run_24 : decode cX5_run 24 = .ok (.iadd, 1) := by decide +kernel
theorem dX5_run_25 : decode cX5_run 25 = .ok (.putfield 137, 3) := by decide +kernel
theorem dX5_run_28 : decode cX5_run 28 = .ok (.aload_n 0, 1) := by decide +kernel
theorem dX5_run_29 : decode cX5_run 29 = .ok (.iconst 0, 1) := by decide +kernel
theorem dX5_run_30 : decode cX5_run 30 = .ok (.putfield 67, 3) := by decide +kernel
theorem dX5_run_33 : decode cX5_run 33 = .ok (.aload_n 0, 1) := by decide +kernel
theorem dX5_run_34 : decode cX5_run 34 = .ok (.iconst 0, 1) := by decide +kernel
theorem dX5_run_35 : decode cX5_run 35 = .ok (.putfield 89, 3) := by decide +kernel
theorem dX5_run_38 : decode cX5_run 38 = .ok (.aload_n 0, 1) := by decide +kernel
theorem dX5_run_39 : decode cX5_run 39 = .ok (.iconst 0, 1) := by decide +kernel
theorem dX5_run_40 : decode cX5_run 40 = .ok (.putfield 70, 3) := by decide +kernel
theorem dX5_run_43 : decode cX5_run 43 = .ok (.aload_n 0, 1) := by decide +kernel
theorem dX5_run_44 : decode cX5_run 44 = .ok (.iconst 0, 1) := by decide +kernel
theorem dX5_run_45 : decode cX5_run 45 = .ok (.putfield 76, 3) := by decide +kernel
theorem dX5_run_48 : decode cX5_run 48 = .ok (.aload_n 0, 1) := by decide +kernel
theorem dX5_run_49 : decode cX5_run 49 = .ok (.iconst 0, 1) := by decide +kernel
theorem dX5_run_50 : decode cX5_run 50 = .ok (.putfield 83, 3) := by decide +kernel
theorem dX5_run_53 : decode cX5_run 53 = .ok (.aload_n 0, 1) := by decide +kernel
theorem dX5_run_54 : decode cX5_run 54 = .ok (.iconst 0, 1) := by decide +kernel
theorem dX5_run_55 : decode cX5_run 55 = .ok (.putfield 73, 3) := by decide +kernel
theorem dX5_run_58 : decode cX5_run 58 = .ok (.aload_n 0, 1) := by decide +kernel
theorem dX5_run_59 : decode cX5_run 59 = .ok (.iconst 0, 1) := by decide +kernel
theorem dX5_run_60 : decode cX5_run 60 = .ok (.putfield 105, 3) := by decide +kernel
theorem dX5_run_63 : decode cX5_run 63 = .ok (.aload_n 0, 1) := by decide +kernel
theorem dX5_run_64 : decode cX5_run 64 = .ok (.iconst 0, 1) := by decide +kernel
theorem dX5_run_65 : decode cX5_run 65 = .ok (.invokevirtual 98, 3) := by decide +kernel
theorem dX5_run_68 : decode cX5_run 68 = .ok (.istore_n 1, 1) := by decide +kernel
theorem dX5_run_69 : decode cX5_run 69 = .ok (.iload_n 1, 1) := by decide +kernel
theorem dX5_run_70 : decode cX5_run 70 = .ok (.iconst 4, 1) := by decide +kernel
theorem dX5_run_71 : decode cX5_run 71 = .ok (.if_icmp .ne 10, 3) := by decide +kernel
theorem dX5_run_74 : decode cX5_run 74 = .ok (.aload_n 0, 1) := by decide +kernel
theorem dX5_run_75 : decode cX5_run 75 = .ok (.getfield 86, 3) := by decide +kernel
theorem dX5_run_78 : decode cX5_run 78 = .ok (.goto 14, 3) := by decide +kernel
theorem dX5_run_81 : decode cX5_run 81 = .ok (.iload_n 1, 1) := by decide +kernel
theorem dX5_run_82 : decode cX5_run 82 = .ok (.iconst 5, 1) := by decide +kernel
theorem dX5_run_83 : decode cX5_run 83 = .ok (.if_icmp .ne 8, 3) := by decide +kernel
theorem dX5_run_86 : decode cX5_run 86 = .ok (.bipush 20, 2) := by decide +kernel
theorem dX5_run_88 : decode cX5_run 88 = .ok (.goto 4, 3) := by decide +kernel
theorem dX5_run_91 : decode cX5_run 91 = .ok (.iconst 0, 1) := by decide +kernel
theorem dX5_run_92 : decode cX5_run 92 = .ok (.ireturn, 1) := by decide +kernel
set_option maxRecDepth 20000 in
theorem ggX5_trace_X5_in : GoodIn wsX5_trace wsX5_in := goodIn_r _ [7] (by decide +kernel) (by decide +kernel)
set_option maxRecDepth 20000 in
theorem gX5_trace_X5_in : GoodIn wsX5_trace (va_wsS RX5 41 yX5_in wsX5_in) := goodIn_app (goodIn_of _ (by decide +kernel)) ggX5_trace_X5_in
theorem dX5_trace_0 : decode cX5_trace 0 = .ok (.aload_n 0, 1) := by decide +kernel
theorem dX5_trace_1 : decode cX5_trace 1 = .ok (.iconst 0, 1) := by decide +kernel
theorem dX5_trace_2 : decode cX5_trace 2 = .ok (.putfield 37, 3) := by decide +kernel
theorem dX5_trace_5 : decode cX5_trace 5 = .ok (.iload_n 1, 1) := by decide +kernel
theorem dX5_trace_6 : decode cX5_trace 6 = .ok (.iconst 0, 1) := by decide +kernel
theorem dX5_trace_7 : decode cX5_trace 7 = .ok (.sipush 249, 3) := by decide +kernel
theorem dX5_trace_10 : decode cX5_trace 10 = .ok (.invokestatic 41, 3) := by decide +kernel
theorem dX5_trace_13 : decode cX5_trace 13 = .ok (.ifCond .eq 20, 3) := by decide +kernel
theorem dX5_trace_16 : decode cX5_trace 16 = .ok (.iload_n 1, 1) := by decide +kernel
theorem dX5_trace_17 : decode cX5_trace 17 = .ok (.aload_n 0, 1) := by decide +kernel
theorem dX5_trace_18 : decode cX5_trace 18 = .ok (.getfield 67, 3) := by decide +kernel
theorem dX5_trace_21 : decode cX5_trace 21 = .ok (.if_icmp .ge 12, 3) := by decide +kernel
theorem dX5_trace_24 : decode cX5_trace 24 = .ok (.aload_n 0, 1) := by decide +kernel
theorem dX5_trace_25 : decode cX5_trace 25 = .ok (.getfield 34, 3) := by decide +kernel
theorem dX5_trace_28 : decode cX5_trace 28 = .ok (.iload_n 1, 1) := by decide +kernel
theorem dX5_trace_29 : decode cX5_trace 29 = .ok (.iaload, 1) := by decide +kernel
theorem dX5_trace_30 : decode cX5_trace 30 = .ok (.goto 4, 3) := by decide +kernel
theorem dX5_trace_33 : decode cX5_trace 33 = .ok (.iconst (-1), 1) := by decide +kernel
theorem dX5_trace_34 : decode cX5_trace 34 = .ok (.ireturn, 1) := by decide +kernel
theorem dX5_told_0 : decode cX5_told 0 = .ok (.aload_n 0, 1) := by decide +kernel
theorem dX5_told_1 : decode cX5_told 1 = .ok (.iconst 0, 1) := by decide +kernel
theorem dX5_told_2 : decode cX5_told 2 = .ok (.putfield 37, 3) := by decide +kernel
theorem dX5_told_5 : decode cX5_told 5 = .ok (.iload_n 1, 1) := by decide +kernel
theorem dX5_told_6 : decode cX5_told 6 = .ok (.ifCond .ne 10, 3) := by decide +kernel
theorem dX5_told_9 : decode cX5_told 9 = .ok (.aload_n 0, 1) := by decide +kernel
theorem dX5_told_10 : decode cX5_told 10 = .ok (.getfield 67, 3) := by decide +kernel
theorem dX5_told_13 : decode cX5_told 13 = .ok (.goto 53, 3) := by decide +kernel
theorem dX5_told_16 : decode cX5_told 16 = .ok (.iload_n 1, 1) := by decide +kernel
theorem dX5_told_17 : decode cX5_told 17 = .ok (.iconst 1, 1) := by decide +kernel
theorem dX5_told_18 : decode cX5_told 18 = .ok (.if_icmp .ne 10, 3) := by decide +kernel
theorem dX5_told_21 : decode cX5_told 21 = .ok (.aload_n 0, 1) := by decide +kernel
theorem dX5_told_22 : decode cX5_told 22 = .ok (.getfield 89, 3) := by decide +kernel
theorem dX5_told_25 : decode cX5_told 25 = .ok (.goto 41, 3) := by decide +kernel
theorem dX5_told_28 : decode cX5_told 28 = .ok (.iload_n 1, 1) := by decide +kernel
theorem dX5_told_29 : decode cX5_told 29 = .ok (.iconst 2, 1) := by decide +kernel
theorem dX5_told_30 : decode cX5_told 30 = .ok (.if_icmp .ne 10, 3) := by decide +kernel
theorem dX5_told_33 : decode cX5_told 33 = .ok (.aload_n 0, 1) := by decide +kernel
theorem dX5_told_34 : decode cX5_told 34 = .ok (.getfield 70, 3) := by decide +kernel
theorem dX5_told_37 : decode cX5_told 37 = .ok (.goto 29, 3) := by decide +kernel
theorem dX5_told_40 : decode cX5_told 40 = .ok (.iload_n 1, 1) := by decide +kernel
theorem dX5_told_41 : decode cX5_told 41 = .ok (.iconst 3, 1) := by decide +kernel
theorem dX5_told_42 : decode cX5_told 42 = .ok (.if_icmp .ne 10, 3) := by decide +kernel
theorem dX5_told_45 : decode cX5_told 45 = .ok (.aload_n 0, 1) := by decide +kernel
theorem dX5_told_46 : decode cX5_told 46 = .ok (.getfield 76, 3) := by decide +kernel
theorem dX5_told_49 : decode cX5_told 49 = .ok (.goto 17, 3) := by decide +kernel
theorem dX5_told_52 : decode cX5_told 52 = .ok (.iload_n 1, 1) := by decide +kernel
theorem dX5_told_53 : decode cX5_told 53 = .ok (.iconst 4, 1) := by decide +kernel
theorem dX5_told_54 : decode cX5_told 54 = .ok (.if_icmp .ne 10, 3) := by decide +kernel
theorem dX5_told_57 : decode cX5_told 57 = .ok (.aload_n 0, 1) := by decide +kernel
theorem dX5_told_58 : decode cX5_told 58 = .ok (.getfield 83, 3) := by decide +kernel
theorem dX5_told_61 : decode cX5_told 61 = .ok (.goto 5, 3) := by decide +kernel
theorem dX5_told_64 : decode cX5_told 64 = .ok (.bipush (-2), 2) := by decide +kernel
theorem dX5_told_66 : decode cX5_told 66 = .ok (.ireturn, 1) := by decide +kernel
set_option maxRecDepth 20000 in
theorem ggX5_at_X5_isPlace : GoodIn wsX5_at wsX5_isPlace := goodIn_r _ [6, 7, 8, 5, 9] (by decide +kernel) (by decide +kernel)
set_option maxRecDepth 20000 in
theorem gX5_at_X5_isPlace : GoodIn wsX5_at (va_wsS RX5 48 yX5_isPlace wsX5_isPlace) := goodIn_app (goodIn_of _ (by decide +kernel)) ggX5_at_X5_isPlace
theorem dX5_at_0 : decode cX5_at 0 = .ok (.aload_n 0, 1) := by decide +kernel
theorem dX5_at_1 : decode cX5_at 1 = .ok (.iconst 0, 1) := by decide +kernel
theorem dX5_at_2 : decode cX5_at 2 = .ok (.putfield 37, 3) := by decide +kernel
theorem dX5_at_5 : decode cX5_at 5 = .ok (.iload_n 1, 1) := by decide +kernel
theorem dX5_at_6 : decode cX5_at 6 = .ok (.invokestatic 48, 3) := by decide +kernel
theorem dX5_at_9 : decode cX5_at 9 = .ok (.ifCond .eq 12, 3) := by decide +kernel
theorem dX5_at_12 : decode cX5_at 12 = .ok (.aload_n 0, 1) := by decide +kernel
theorem dX5_at_13 : decode cX5_at 13 = .ok (.getfield 7, 3) := by decide +kernel
theorem dX5_at_16 : decode cX5_at 16 = .ok (.iload_n 1, 1) := by decide +kernel
theorem dX5_at_17 : decode cX5_at 17 = .ok (.iaload, 1) := by decide +kernel
theorem dX5_at_18 : decode cX5_at 18 = .ok (.goto 5, 3) := by decide +kernel
theorem dX5_at_21 : decode cX5_at 21 = .ok (.bipush (-2), 2) := by decide +kernel
theorem dX5_at_23 : decode cX5_at 23 = .ok (.ireturn, 1) := by decide +kernel
set_option maxRecDepth 20000 in
theorem ggX5_number_X5_in : GoodIn wsX5_number wsX5_in := goodIn_r _ [7] (by decide +kernel) (by decide +kernel)
set_option maxRecDepth 20000 in
theorem gX5_number_X5_in : GoodIn wsX5_number (va_wsS RX5 41 yX5_in wsX5_in) := goodIn_app (goodIn_of _ (by decide +kernel)) ggX5_number_X5_in
theorem dX5_number_0 : decode cX5_number 0 = .ok (.aload_n 0, 1) := by decide +kernel
theorem dX5_number_1 : decode cX5_number 1 = .ok (.iconst 0, 1) := by decide +kernel
theorem dX5_number_2 : decode cX5_number 2 = .ok (.putfield 37, 3) := by decide +kernel
theorem dX5_number_5 : decode cX5_number 5 = .ok (.iload_n 1, 1) := by decide +kernel
theorem dX5_number_6 : decode cX5_number 6 = .ok (.iconst 0, 1) := by decide +kernel
theorem dX5_number_7 : decode cX5_number 7 = .ok (.aload_n 0, 1) := by decide +kernel
theorem dX5_number_8 : decode cX5_number 8 = .ok (.getfield 45, 3) := by decide +kernel
theorem dX5_number_11 : decode cX5_number 11 = .ok (.iconst 1, 1) := by decide +kernel
theorem dX5_number_12 : decode cX5_number 12 = .ok (.isub, 1) := by decide +kernel
theorem dX5_number_13 : decode cX5_number 13 = .ok (.invokestatic 41, 3) := by decide +kernel
theorem dX5_number_16 : decode cX5_number 16 = .ok (.ifCond .eq 12, 3) := by decide +kernel
theorem dX5_number_19 : decode cX5_number 19 = .ok (.aload_n 0, 1) := by decide +kernel
theorem dX5_number_20 : decode cX5_number 20 = .ok (.getfield 13, 3) := by decide +kernel
theorem dX5_number_23 : decode cX5_number 23 = .ok (.iload_n 1, 1) := by decide +kernel
theorem dX5_number_24 : decode cX5_number 24 = .ok (.iaload, 1) := by decide +kernel
theorem dX5_number_25 : decode cX5_number 25 = .ok (.goto 4, 3) := by decide +kernel
theorem dX5_number_28 : decode cX5_number 28 = .ok (.iconst 0, 1) := by decide +kernel
theorem dX5_number_29 : decode cX5_number 29 = .ok (.ireturn, 1) := by decide +kernel
theorem dX5_count_0 : decode cX5_count 0 = .ok (.aload_n 0, 1) := by decide +kernel
theorem dX5_count_1 : decode cX5_count 1 = .ok (.iconst 0, 1) := by decide +kernel
theorem dX5_count_2 : decode cX5_count 2 = .ok (.putfield 37, 3) := by decide +kernel
theorem dX5_count_5 : decode cX5_count 5 = .ok (.iload_n 1, 1) := by decide +kernel
theorem dX5_count_6 : decode cX5_count 6 = .ok (.ifCond .ne 10, 3) := by decide +kernel
theorem dX5_count_9 : decode cX5_count 9 = .ok (.aload_n 0, 1) := by decide +kernel
theorem dX5_count_10 : decode cX5_count 10 = .ok (.getfield 45, 3) := by decide +kernel
theorem dX5_count_13 : decode cX5_count 13 = .ok (.goto 41, 3) := by decide +kernel
theorem dX5_count_16 : decode cX5_count 16 = .ok (.iload_n 1, 1) := by decide +kernel
theorem dX5_count_17 : decode cX5_count 17 = .ok (.iconst 1, 1) := by decide +kernel
theorem dX5_count_18 : decode cX5_count 18 = .ok (.if_icmp .ne 10, 3) := by decide +kernel
theorem dX5_count_21 : decode cX5_count 21 = .ok (.aload_n 0, 1) := by decide +kernel
theorem dX5_count_22 : decode cX5_count 22 = .ok (.getfield 64, 3) := by decide +kernel
theorem dX5_count_25 : decode cX5_count 25 = .ok (.goto 29, 3) := by decide +kernel
theorem dX5_count_28 : decode cX5_count 28 = .ok (.iload_n 1, 1) := by decide +kernel
theorem dX5_count_29 : decode cX5_count 29 = .ok (.iconst 2, 1) := by decide +kernel
theorem dX5_count_30 : decode cX5_count 30 = .ok (.if_icmp .ne 10, 3) := by decide +kernel
theorem dX5_count_33 : decode cX5_count 33 = .ok (.aload_n 0, 1) := by decide +kernel
theorem dX5_count_34 : decode cX5_count 34 = .ok (.getfield 137, 3) := by decide +kernel
theorem dX5_count_37 : decode cX5_count 37 = .ok (.goto 17, 3) := by decide +kernel
theorem dX5_count_40 : decode cX5_count 40 = .ok (.iload_n 1, 1) := by decide +kernel
theorem dX5_count_41 : decode cX5_count 41 = .ok (.iconst 3, 1) := by decide +kernel
theorem dX5_count_42 : decode cX5_count 42 = .ok (.if_icmp .ne 10, 3) := by decide +kernel
theorem dX5_count_45 : decode cX5_count 45 = .ok (.aload_n 0, 1) := by decide +kernel
theorem dX5_count_46 : decode cX5_count 46 = .ok (.getfield 111, 3) := by decide +kernel
theorem dX5_count_49 : decode cX5_count 49 = .ok (.goto 5, 3) := by decide +kernel
theorem dX5_count_52 : decode cX5_count 52 = .ok (.bipush (-2), 2) := by decide +kernel
theorem dX5_count_54 : decode cX5_count 54 = .ok (.ireturn, 1) := by decide +kernel
theorem dJ9_max_7cf53_0 : decode cJ9_max_7cf53 0 = .ok (.iload_n 0, 1) := by decide +kernel
theorem dJ9_max_7cf53_1 : decode cJ9_max_7cf53 1 = .ok (.iload_n 1, 1) := by decide +kernel
theorem dJ9_max_7cf53_2 : decode cJ9_max_7cf53 2 = .ok (.if_icmp .lt 7, 3) := by decide +kernel
theorem dJ9_max_7cf53_5 : decode cJ9_max_7cf53 5 = .ok (.iload_n 0, 1) := by decide +kernel
theorem dJ9_max_7cf53_6 : decode cJ9_max_7cf53 6 = .ok (.goto 4, 3) := by decide +kernel
theorem dJ9_max_7cf53_9 : decode cJ9_max_7cf53 9 = .ok (.iload_n 1, 1) := by decide +kernel
theorem dJ9_max_7cf53_10 : decode cJ9_max_7cf53 10 = .ok (.ireturn, 1) := by decide +kernel
theorem dJ9_min_7cf53_0 : decode cJ9_min_7cf53 0 = .ok (.iload_n 0, 1) := by decide +kernel
theorem dJ9_min_7cf53_1 : decode cJ9_min_7cf53 1 = .ok (.iload_n 1, 1) := by decide +kernel
theorem dJ9_min_7cf53_2 : decode cJ9_min_7cf53 2 = .ok (.if_icmp .gt 7, 3) := by decide +kernel
theorem dJ9_min_7cf53_5 : decode cJ9_min_7cf53 5 = .ok (.iload_n 0, 1) := by decide +kernel
theorem dJ9_min_7cf53_6 : decode cJ9_min_7cf53 6 = .ok (.goto 4, 3) := by decide +kernel
theorem dJ9_min_7cf53_9 : decode cJ9_min_7cf53 9 = .ok (.iload_n 1, 1) := by decide +kernel
theorem dJ9_min_7cf53_10 : decode cJ9_min_7cf53 10 = .ok (.ireturn, 1) := by decide +kernel
theorem dJ7_fill_53178_0 : decode cJ7_fill_53178 0 = .ok (.iconst 0, 1) := by decide +kernel
theorem dJ7_fill_53178_1 : decode cJ7_fill_53178 1 = .ok (.istore_n 2, 1) := by decide +kernel
theorem dJ7_fill_53178_2 : decode cJ7_fill_53178 2 = .ok (.aload_n 0, 1) := by decide +kernel
theorem dJ7_fill_53178_3 : decode cJ7_fill_53178 3 = .ok (.arraylength, 1) := by decide +kernel
theorem dJ7_fill_53178_4 : decode cJ7_fill_53178 4 = .ok (.istore_n 3, 1) := by decide +kernel
theorem dJ7_fill_53178_5 : decode cJ7_fill_53178 5 = .ok (.iload_n 2, 1) := by decide +kernel
theorem dJ7_fill_53178_6 : decode cJ7_fill_53178 6 = .ok (.iload_n 3, 1) := by decide +kernel
theorem dJ7_fill_53178_7 : decode cJ7_fill_53178 7 = .ok (.if_icmp .ge 13, 3) := by decide +kernel
theorem dJ7_fill_53178_10 : decode cJ7_fill_53178 10 = .ok (.aload_n 0, 1) := by decide +kernel
theorem dJ7_fill_53178_11 : decode cJ7_fill_53178 11 = .ok (.iload_n 2, 1) := by decide +kernel
theorem dJ7_fill_53178_12 : decode cJ7_fill_53178 12 = .ok (.iload_n 1, 1) := by decide +kernel
theorem dJ7_fill_53178_13 : decode cJ7_fill_53178 13 = .ok (.iastore, 1) := by decide +kernel
theorem dJ7_fill_53178_14 : decode cJ7_fill_53178 14 = .ok (.iinc 2 1, 3) := by decide +kernel
theorem dJ7_fill_53178_17 : decode cJ7_fill_53178 17 = .ok (.goto (-12), 3) := by decide +kernel
theorem dJ7_fill_53178_20 : decode cJ7_fill_53178 20 = .ok (.return_, 1) := by decide +kernel
set_option maxRecDepth 20000 in
theorem ggL_law_X4_init : GoodIn wsL_law wsX4_init := goodIn_r _ [8, 9, 10, 11, 12, 13, 14, 15, 16, 17, 18, 19, 20, 21, 22, 23, 24, 25, 26, 27, 28, 29, 30, 31, 32, 33, 34, 35, 36, 37, 38, 39, 40, 41, 42, 43, 44, 45, 46, 47, 48, 49, 50, 51, 52, 53, 54, 55, 56, 57, 58, 59, 60, 61, 62, 63, 64, 65, 66, 67, 68, 69, 70, 394, 395, 396, 397, 367, 368, 369, 370, 371, 398, 399, 400, 401, 402, 403, 404, 405, 406, 407, 408, 409, 410, 411, 412, 413, 414] (by decide +kernel) (by decide +kernel)
set_option maxRecDepth 20000 in
theorem gL_law_X4_init : GoodIn wsL_law (wsX4_init) := ggL_law_X4_init
set_option maxRecDepth 20000 in
theorem ggL_law_X5_init : GoodIn wsL_law wsX5_init := goodIn_r _ [73, 74, 10, 11, 32, 75, 76, 77, 78, 79, 80, 81, 82, 83, 372, 373, 374, 375, 376, 377, 378, 379, 380, 381, 382, 383, 384, 385, 386, 387, 388, 389, 390, 391, 392, 393] (by decide +kernel) (by decide +kernel)
set_option maxRecDepth 20000 in
theorem gL_law_X5_init : GoodIn wsL_law (wsX5_init) := ggL_law_X5_init
set_option maxRecDepth 20000 in
theorem ggL_law_X4_thing : GoodIn wsL_law wsX4_thing := goodIn_r _ [87, 15, 88, 89, 2, 90, 91, 92, 93, 94, 14, 95, 96, 36, 97, 98, 99, 100, 33, 367, 368, 369, 370, 371, 394, 395, 396, 397] (by decide +kernel) (by decide +kernel)
set_option maxRecDepth 20000 in
theorem gL_law_X4_thing : GoodIn wsL_law (wsV RL 13 RX4 yX4_thing wsX4_thing) := goodIn_app (goodIn_of _ (by decide +kernel)) ggL_law_X4_thing
set_option maxRecDepth 20000 in
theorem ggL_law_X5_thing : GoodIn wsL_law wsX5_thing := goodIn_r _ [104, 105, 106, 107, 108, 5, 109, 110, 111, 112, 113, 114, 115, 116, 76, 77, 75, 372, 373, 374, 375, 376, 377, 378, 379, 380, 381, 382, 383, 384, 385, 386, 387, 388, 389, 390, 391, 392, 393] (by decide +kernel) (by decide +kernel)
set_option maxRecDepth 20000 in
theorem gL_law_X5_thing : GoodIn wsL_law (wsV RL 17 RX5 yX5_thing wsX5_thing) := goodIn_app (goodIn_of _ (by decide +kernel)) ggL_law_X5_thing
set_option maxRecDepth 20000 in
theorem ggL_law_X4_set : GoodIn wsL_law wsX4_set := goodIn_r _ [120, 15, 88, 89, 2, 90, 91, 92, 93, 121, 14, 122, 123, 33, 98, 99, 100, 367, 368, 369, 370, 371, 394, 395, 396, 397] (by decide +kernel) (by decide +kernel)
set_option maxRecDepth 20000 in
theorem gL_law_X4_set : GoodIn wsL_law (wsV RL 18 RX4 yX4_set wsX4_set) := goodIn_app (goodIn_of _ (by decide +kernel)) ggL_law_X4_set
set_option maxRecDepth 20000 in
theorem ggL_law_X5_set : GoodIn wsL_law wsX5_set := goodIn_r _ [127, 105, 75, 107, 108, 5, 109, 110, 111, 112, 372, 373, 374, 375, 376, 377, 378, 379, 380, 381, 382, 383, 384, 385, 386, 387, 388, 389, 390, 391, 392, 393] (by decide +kernel) (by decide +kernel)
set_option maxRecDepth 20000 in
theorem gL_law_X5_set : GoodIn wsL_law (wsV RL 22 RX5 yX5_set wsX5_set) := goodIn_app (goodIn_of _ (by decide +kernel)) ggL_law_X5_set
set_option maxRecDepth 20000 in
theorem ggL_law_X4_step : GoodIn wsL_law wsX4_step := goodIn_r _ [131, 19, 132, 133, 2, 134, 135, 136, 137, 91, 92, 93, 88, 89, 90, 138, 139, 140, 141, 18, 142, 143, 49, 44, 45, 46, 47, 48, 367, 368, 369, 370, 371, 398, 399, 400, 401, 402, 403] (by decide +kernel) (by decide +kernel)
set_option maxRecDepth 20000 in
theorem gL_law_X4_step : GoodIn wsL_law (wsV RL 23 RX4 yX4_step wsX4_step) := goodIn_app (goodIn_of _ (by decide +kernel)) ggL_law_X4_step
set_option maxRecDepth 20000 in
theorem ggL_law_X5_step : GoodIn wsL_law wsX5_step := goodIn_r _ [147, 105, 78, 148, 79, 80, 81, 82, 110, 111, 5, 112, 149, 150, 151, 107, 108, 109, 152, 153, 154, 372, 373, 374, 375, 376, 377, 378, 379, 380, 381, 382, 383, 384, 385, 386, 387, 388, 389, 390, 391, 392, 393] (by decide +kernel) (by decide +kernel)
set_option maxRecDepth 20000 in
theorem gL_law_X5_step : GoodIn wsL_law (wsV RL 27 RX5 yX5_step wsX5_step) := goodIn_app (goodIn_of _ (by decide +kernel)) ggL_law_X5_step
set_option maxRecDepth 20000 in
theorem ggL_law_X4_clear : GoodIn wsL_law wsX4_clear := goodIn_r _ [158, 19, 159, 18, 160, 161, 44, 49, 136, 2, 137, 91, 92, 93, 367, 368, 369, 370, 371, 398, 399, 400, 401, 402, 403] (by decide +kernel) (by decide +kernel)
set_option maxRecDepth 20000 in
theorem gL_law_X4_clear : GoodIn wsL_law (wsV RL 28 RX4 yX4_clear wsX4_clear) := goodIn_app (goodIn_of _ (by decide +kernel)) ggL_law_X4_clear
set_option maxRecDepth 20000 in
theorem ggL_law_X5_clear : GoodIn wsL_law wsX5_clear := goodIn_r _ [165, 105, 78, 148, 110, 111, 5, 112, 372, 373, 374, 375, 376, 377, 378, 379, 380, 381, 382, 383, 384, 385, 386, 387, 388, 389, 390, 391, 392, 393] (by decide +kernel) (by decide +kernel)
set_option maxRecDepth 20000 in
theorem gL_law_X5_clear : GoodIn wsL_law (wsV RL 31 RX5 yX5_clear wsX5_clear) := goodIn_app (goodIn_of _ (by decide +kernel)) ggL_law_X5_clear
set_option maxRecDepth 20000 in
theorem ggL_law_X4_run : GoodIn wsL_law wsX4_run := goodIn_r _ [169, 27, 28, 23, 55, 22, 56, 57, 58, 59, 60, 61, 62, 63, 170, 26, 171, 172, 68, 173, 174, 175, 176, 136, 2, 137, 91, 92, 93, 177, 178, 179, 180, 181, 182, 183, 67, 70, 121, 14, 122, 123, 33, 89, 90, 184, 185, 186, 187, 69, 188, 189, 190, 35, 191, 192, 193, 194, 36, 195, 196, 197, 198, 199, 200, 201, 202, 203, 204, 53, 205, 206, 207, 208, 209, 210, 211, 212, 213, 214, 215, 216, 217, 218, 219, 220, 221, 222, 223, 224, 225, 226, 227, 228, 229, 230, 231, 232, 233, 234, 235, 236, 237, 238, 239, 240, 241, 242, 243, 34, 98, 99, 100, 244, 245, 246, 247, 94, 95, 96, 97, 248, 249, 250, 251, 252, 253, 254, 255, 256, 367, 368, 369, 370, 371, 411, 412, 413, 414, 404, 405, 406, 407, 408, 409, 410, 398, 399, 400, 401, 402, 403, 394, 395, 396, 397] (by decide +kernel) (by decide +kernel)
set_option maxRecDepth 20000 in
theorem gL_law_X4_run : GoodIn wsL_law (wsV RL 32 RX4 yX4_run wsX4_run) := goodIn_app (goodIn_of _ (by decide +kernel)) ggL_law_X4_run
set_option maxRecDepth 20000 in
theorem ggL_law_X5_run : GoodIn wsL_law wsX5_run := goodIn_r _ [260, 105, 261, 262, 263, 264, 265, 266, 267, 268, 269, 270, 271, 272, 273, 5, 274, 78, 275, 276, 277, 278, 279, 280, 80, 81, 79, 75, 82, 106, 281, 282, 283, 284, 83, 285, 286, 287, 288, 289, 290, 291, 292, 293, 294, 295, 296, 297, 298, 299, 300, 301, 302, 303, 304, 305, 306, 307, 77, 76, 113, 114, 115, 116, 308, 309, 310, 311, 312, 313, 314, 315, 316, 317, 318, 319, 320, 321, 322, 372, 373, 374, 375, 376, 377, 378, 379, 380, 381, 382, 383, 384, 385, 386, 387, 388, 389, 390, 391, 392, 393] (by decide +kernel) (by decide +kernel)
set_option maxRecDepth 20000 in
theorem gL_law_X5_run : GoodIn wsL_law (wsV RL 36 RX5 yX5_run wsX5_run) := goodIn_app (goodIn_of _ (by decide +kernel)) ggL_law_X5_run
set_option maxRecDepth 20000 in
theorem ggL_law_X4_trace : GoodIn wsL_law wsX4_trace := goodIn_r _ [326, 23, 327, 22, 328, 329, 58, 330, 174, 175, 176, 53, 92, 2, 93, 367, 368, 369, 370, 371, 404, 405, 406, 407, 408, 409, 410] (by decide +kernel) (by decide +kernel)
set_option maxRecDepth 20000 in
theorem gL_law_X4_trace : GoodIn wsL_law (wsV RL 37 RX4 yX4_trace wsX4_trace) := goodIn_app (goodIn_of _ (by decide +kernel)) ggL_law_X4_trace
set_option maxRecDepth 20000 in
theorem ggL_law_X5_trace : GoodIn wsL_law wsX5_trace := goodIn_r _ [334, 105, 263, 83, 110, 111, 5, 112, 372, 373, 374, 375, 376, 377, 378, 379, 380, 381, 382, 383, 384, 385, 386, 387, 388, 389, 390, 391, 392, 393] (by decide +kernel) (by decide +kernel)
set_option maxRecDepth 20000 in
theorem gL_law_X5_trace : GoodIn wsL_law (wsV RL 40 RX5 yX5_trace wsX5_trace) := goodIn_app (goodIn_of _ (by decide +kernel)) ggL_law_X5_trace
set_option maxRecDepth 20000 in
theorem ggL_law_X4_told : GoodIn wsL_law wsX4_told := goodIn_r _ [338, 23, 367, 368, 369, 370, 371, 404, 405, 406, 407, 408, 409, 410] (by decide +kernel) (by decide +kernel)
set_option maxRecDepth 20000 in
theorem gL_law_X4_told : GoodIn wsL_law (wsV RL 41 RX4 yX4_told wsX4_told) := goodIn_app (goodIn_of _ (by decide +kernel)) ggL_law_X4_told
set_option maxRecDepth 20000 in
theorem ggL_law_X5_told : GoodIn wsL_law wsX5_told := goodIn_r _ [342, 105, 263, 264, 265, 266, 267, 372, 373, 374, 375, 376, 377, 378, 379, 380, 381, 382, 383, 384, 385, 386, 387, 388, 389, 390, 391, 392, 393] (by decide +kernel) (by decide +kernel)
set_option maxRecDepth 20000 in
theorem gL_law_X5_told : GoodIn wsL_law (wsV RL 44 RX5 yX5_told wsX5_told) := goodIn_app (goodIn_of _ (by decide +kernel)) ggL_law_X5_told
set_option maxRecDepth 20000 in
theorem ggL_law_X4_at : GoodIn wsL_law wsX4_at := goodIn_r _ [346, 15, 88, 89, 2, 90, 91, 92, 93, 121, 14, 122, 123, 33, 367, 368, 369, 370, 371, 394, 395, 396, 397] (by decide +kernel) (by decide +kernel)
set_option maxRecDepth 20000 in
theorem gL_law_X4_at : GoodIn wsL_law (wsV RL 45 RX4 yX4_at wsX4_at) := goodIn_app (goodIn_of _ (by decide +kernel)) ggL_law_X4_at
set_option maxRecDepth 20000 in
theorem ggL_law_X5_at : GoodIn wsL_law wsX5_at := goodIn_r _ [350, 105, 75, 107, 108, 5, 109, 110, 111, 112, 372, 373, 374, 375, 376, 377, 378, 379, 380, 381, 382, 383, 384, 385, 386, 387, 388, 389, 390, 391, 392, 393] (by decide +kernel) (by decide +kernel)
set_option maxRecDepth 20000 in
theorem gL_law_X5_at : GoodIn wsL_law (wsV RL 48 RX5 yX5_at wsX5_at) := goodIn_app (goodIn_of _ (by decide +kernel)) ggL_law_X5_at
set_option maxRecDepth 20000 in
theorem ggL_law_X4_number : GoodIn wsL_law wsX4_number := goodIn_r _ [354, 15, 252, 14, 253, 254, 34, 191, 192, 193, 194, 36, 367, 368, 369, 370, 371, 394, 395, 396, 397] (by decide +kernel) (by decide +kernel)
set_option maxRecDepth 20000 in
theorem gL_law_X4_number : GoodIn wsL_law (wsV RL 49 RX4 yX4_number wsX4_number) := goodIn_app (goodIn_of _ (by decide +kernel)) ggL_law_X4_number
set_option maxRecDepth 20000 in
theorem ggL_law_X5_number : GoodIn wsL_law wsX5_number := goodIn_r _ [358, 105, 106, 76, 110, 111, 5, 112, 372, 373, 374, 375, 376, 377, 378, 379, 380, 381, 382, 383, 384, 385, 386, 387, 388, 389, 390, 391, 392, 393] (by decide +kernel) (by decide +kernel)
set_option maxRecDepth 20000 in
theorem gL_law_X5_number : GoodIn wsL_law (wsV RL 52 RX5 yX5_number wsX5_number) := goodIn_app (goodIn_of _ (by decide +kernel)) ggL_law_X5_number
set_option maxRecDepth 20000 in
theorem ggL_law_X4_count : GoodIn wsL_law wsX4_count := goodIn_r _ [362, 15, 19, 28, 27, 367, 368, 369, 370, 371, 394, 395, 396, 397, 398, 399, 400, 401, 402, 403, 411, 412, 413, 414] (by decide +kernel) (by decide +kernel)
set_option maxRecDepth 20000 in
theorem gL_law_X4_count : GoodIn wsL_law (wsV RL 53 RX4 yX4_count wsX4_count) := goodIn_app (goodIn_of _ (by decide +kernel)) ggL_law_X4_count
set_option maxRecDepth 20000 in
theorem ggL_law_X5_count : GoodIn wsL_law wsX5_count := goodIn_r _ [366, 105, 106, 148, 262, 261, 372, 373, 374, 375, 376, 377, 378, 379, 380, 381, 382, 383, 384, 385, 386, 387, 388, 389, 390, 391, 392, 393] (by decide +kernel) (by decide +kernel)
set_option maxRecDepth 20000 in
theorem gL_law_X5_count : GoodIn wsL_law (wsV RL 56 RX5 yX5_count wsX5_count) := goodIn_app (goodIn_of _ (by decide +kernel)) ggL_law_X5_count
theorem dL_law_0 : decode cL_law 0 = .ok (.new 7, 3) := by decide +kernel
theorem dL_law_3 : decode cL_law 3 = .ok (.dup, 1) := by decide +kernel
theorem dL_law_4 : decode cL_law 4 = .ok (.invokespecial 9, 3) := by decide +kernel
theorem dL_law_7 : decode cL_law 7 = .ok (.astore_n 1, 1) := by decide +kernel
theorem dL_law_8 : decode cL_law 8 = .ok (.new 10, 3) := by decide +kernel
theorem dL_law_11 : decode cL_law 11 = .ok (.dup, 1) := by decide +kernel
theorem dL_law_12 : decode cL_law 12 = .ok (.invokespecial 12, 3) := by decide +kernel
theorem dL_law_15 : decode cL_law 15 = .ok (.astore_n 2, 1) := by decide +kernel
theorem dL_law_16 : decode cL_law 16 = .ok (.iconst 0, 1) := by decide +kernel
theorem dL_law_17 : decode cL_law 17 = .ok (.istore_n 3, 1) := by decide +kernel
theorem dL_law_18 : decode cL_law 18 = .ok (.iload_n 3, 1) := by decide +kernel
theorem dL_law_19 : decode cL_law 19 = .ok (.aload_n 0, 1) := by decide +kernel
theorem dL_law_20 : decode cL_law 20 = .ok (.arraylength, 1) := by decide +kernel
theorem dL_law_21 : decode cL_law 21 = .ok (.bipush 6, 2) := by decide +kernel
theorem dL_law_23 : decode cL_law 23 = .ok (.isub, 1) := by decide +kernel
theorem dL_law_24 : decode cL_law 24 = .ok (.if_icmp .gt 340, 3) := by decide +kernel
theorem dL_law_27 : decode cL_law 27 = .ok (.aload_n 0, 1) := by decide +kernel
theorem dL_law_28 : decode cL_law 28 = .ok (.iload_n 3, 1) := by decide +kernel
theorem dL_law_29 : decode cL_law 29 = .ok (.iaload, 1) := by decide +kernel
theorem dL_law_30 : decode cL_law 30 = .ok (.bipush 15, 2) := by decide +kernel
theorem dL_law_32 : decode cL_law 32 = .ok (.iand, 1) := by decide +kernel
theorem dL_law_33 : decode cL_law 33 = .ok (.tableswitch 325 0 9 #[55, 78, 111, 174, 197, 210, 233, 256, 279, 302], 55) := by decide +kernel
theorem dL_law_88 : decode cL_law 88 = .ok (.aload_n 1, 1) := by decide +kernel
theorem dL_law_89 : decode cL_law 89 = .ok (.aload_n 0, 1) := by decide +kernel
theorem dL_law_90 : decode cL_law 90 = .ok (.iload_n 3, 1) := by decide +kernel
theorem dL_law_91 : decode cL_law 91 = .ok (.iconst 1, 1) := by decide +kernel
theorem dL_law_92 : decode cL_law 92 = .ok (.iadd, 1) := by decide +kernel
theorem dL_law_93 : decode cL_law 93 = .ok (.iaload, 1) := by decide +kernel
theorem dL_law_94 : decode cL_law 94 = .ok (.invokevirtual 13, 3) := by decide +kernel
theorem dL_law_97 : decode cL_law 97 = .ok (.aload_n 2, 1) := by decide +kernel
theorem dL_law_98 : decode cL_law 98 = .ok (.aload_n 0, 1) := by decide +kernel
theorem dL_law_99 : decode cL_law 99 = .ok (.iload_n 3, 1) := by decide +kernel
theorem dL_law_100 : decode cL_law 100 = .ok (.iconst 1, 1) := by decide +kernel
theorem dL_law_101 : decode cL_law 101 = .ok (.iadd, 1) := by decide +kernel
theorem dL_law_102 : decode cL_law 102 = .ok (.iaload, 1) := by decide +kernel
theorem dL_law_103 : decode cL_law 103 = .ok (.invokevirtual 17, 3) := by decide +kernel
theorem dL_law_106 : decode cL_law 106 = .ok (.if_icmp .eq 252, 3) := by decide +kernel
theorem dL_law_109 : decode cL_law 109 = .ok (.iconst 0, 1) := by decide +kernel
theorem dL_law_110 : decode cL_law 110 = .ok (.ireturn, 1) := by decide +kernel
theorem dL_law_111 : decode cL_law 111 = .ok (.aload_n 1, 1) := by decide +kernel
theorem dL_law_112 : decode cL_law 112 = .ok (.aload_n 0, 1) := by decide +kernel
theorem dL_law_113 : decode cL_law 113 = .ok (.iload_n 3, 1) := by decide +kernel
theorem dL_law_114 : decode cL_law 114 = .ok (.iconst 1, 1) := by decide +kernel
theorem dL_law_115 : decode cL_law 115 = .ok (.iadd, 1) := by decide +kernel
theorem dL_law_116 : decode cL_law 116 = .ok (.iaload, 1) := by decide +kernel
theorem dL_law_117 : decode cL_law 117 = .ok (.aload_n 0, 1) := by decide +kernel
theorem dL_law_118 : decode cL_law 118 = .ok (.iload_n 3, 1) := by decide +kernel
theorem dL_law_119 : decode cL_law 119 = .ok (.iconst 2, 1) := by decide +kernel
theorem dL_law_120 : decode cL_law 120 = .ok (.iadd, 1) := by decide +kernel
theorem dL_law_121 : decode cL_law 121 = .ok (.iaload, 1) := by decide +kernel
theorem dL_law_122 : decode cL_law 122 = .ok (.invokevirtual 18, 3) := by decide +kernel
theorem dL_law_125 : decode cL_law 125 = .ok (.aload_n 2, 1) := by decide +kernel
theorem dL_law_126 : decode cL_law 126 = .ok (.aload_n 0, 1) := by decide +kernel
theorem dL_law_127 : decode cL_law 127 = .ok (.iload_n 3, 1) := by decide +kernel
theorem dL_law_128 : decode cL_law 128 = .ok (.iconst 1, 1) := by decide +kernel
theorem dL_law_129 : decode cL_law 129 = .ok (.iadd, 1) := by decide +kernel
theorem dL_law_130 : decode cL_law 130 = .ok (.iaload, 1) := by decide +kernel
theorem dL_law_131 : decode cL_law 131 = .ok (.aload_n 0, 1) := by decide +kernel
theorem dL_law_132 : decode cL_law 132 = .ok (.iload_n 3, 1) := by decide +kernel
theorem dL_law_133 : decode cL_law 133 = .ok (.iconst 2, 1) := by decide +kernel
theorem dL_law_134 : decode cL_law 134 = .ok (.iadd, 1) := by decide +kernel
theorem dL_law_135 : decode cL_law 135 = .ok (.iaload, 1) := by decide +kernel
theorem dL_law_136 : decode cL_law 136 = .ok (.invokevirtual 22, 3) := by decide +kernel
theorem dL_law_139 : decode cL_law 139 = .ok (.if_icmp .eq 219, 3) := by decide +kernel
theorem dL_law_142 : decode cL_law 142 = .ok (.iconst 0, 1) := by decide +kernel
theorem dL_law_143 : decode cL_law 143 = .ok (.ireturn, 1) := by decide +kernel
theorem dL_law_144 : decode cL_law 144 = .ok (.aload_n 1, 1) := by decide +kernel
theorem dL_law_145 : decode cL_law 145 = .ok (.aload_n 0, 1) := by decide +kernel
theorem dL_law_146 : decode cL_law 146 = .ok (.iload_n 3, 1) := by decide +kernel
theorem dL_law_147 : decode cL_law 147 = .ok (.iconst 1, 1) := by decide +kernel
theorem dL_law_148 : decode cL_law 148 = .ok (.iadd, 1) := by decide +kernel
theorem dL_law_149 : decode cL_law 149 = .ok (.iaload, 1) := by decide +kernel
theorem dL_law_150 : decode cL_law 150 = .ok (.aload_n 0, 1) := by decide +kernel
theorem dL_law_151 : decode cL_law 151 = .ok (.iload_n 3, 1) := by decide +kernel
theorem dL_law_152 : decode cL_law 152 = .ok (.iconst 2, 1) := by decide +kernel
theorem dL_law_153 : decode cL_law 153 = .ok (.iadd, 1) := by decide +kernel
theorem dL_law_154 : decode cL_law 154 = .ok (.iaload, 1) := by decide +kernel
theorem dL_law_155 : decode cL_law 155 = .ok (.aload_n 0, 1) := by decide +kernel
theorem dL_law_156 : decode cL_law 156 = .ok (.iload_n 3, 1) := by decide +kernel
theorem dL_law_157 : decode cL_law 157 = .ok (.iconst 3, 1) := by decide +kernel
theorem dL_law_158 : decode cL_law 158 = .ok (.iadd, 1) := by decide +kernel
theorem dL_law_159 : decode cL_law 159 = .ok (.iaload, 1) := by decide +kernel
theorem dL_law_160 : decode cL_law 160 = .ok (.aload_n 0, 1) := by decide +kernel
theorem dL_law_161 : decode cL_law 161 = .ok (.iload_n 3, 1) := by decide +kernel
theorem dL_law_162 : decode cL_law 162 = .ok (.iconst 4, 1) := by decide +kernel
theorem dL_law_163 : decode cL_law 163 = .ok (.iadd, 1) := by decide +kernel
theorem dL_law_164 : decode cL_law 164 = .ok (.iaload, 1) := by decide +kernel
theorem dL_law_165 : decode cL_law 165 = .ok (.aload_n 0, 1) := by decide +kernel
theorem dL_law_166 : decode cL_law 166 = .ok (.iload_n 3, 1) := by decide +kernel
theorem dL_law_167 : decode cL_law 167 = .ok (.iconst 5, 1) := by decide +kernel
theorem dL_law_168 : decode cL_law 168 = .ok (.iadd, 1) := by decide +kernel
theorem dL_law_169 : decode cL_law 169 = .ok (.iaload, 1) := by decide +kernel
theorem dL_law_170 : decode cL_law 170 = .ok (.invokevirtual 23, 3) := by decide +kernel
theorem dL_law_173 : decode cL_law 173 = .ok (.aload_n 2, 1) := by decide +kernel
theorem dL_law_174 : decode cL_law 174 = .ok (.aload_n 0, 1) := by decide +kernel
theorem dL_law_175 : decode cL_law 175 = .ok (.iload_n 3, 1) := by decide +kernel
theorem dL_law_176 : decode cL_law 176 = .ok (.iconst 1, 1) := by decide +kernel
theorem dL_law_177 : decode cL_law 177 = .ok (.iadd, 1) := by decide +kernel
theorem dL_law_178 : decode cL_law 178 = .ok (.iaload, 1) := by decide +kernel
theorem dL_law_179 : decode cL_law 179 = .ok (.aload_n 0, 1) := by decide +kernel
theorem dL_law_180 : decode cL_law 180 = .ok (.iload_n 3, 1) := by decide +kernel
theorem dL_law_181 : decode cL_law 181 = .ok (.iconst 2, 1) := by decide +kernel
theorem dL_law_182 : decode cL_law 182 = .ok (.iadd, 1) := by decide +kernel
theorem dL_law_183 : decode cL_law 183 = .ok (.iaload, 1) := by decide +kernel
theorem dL_law_184 : decode cL_law 184 = .ok (.aload_n 0, 1) := by decide +kernel
theorem dL_law_185 : decode cL_law 185 = .ok (.iload_n 3, 1) := by decide +kernel
theorem dL_law_186 : decode cL_law 186 = .ok (.iconst 3, 1) := by decide +kernel
theorem dL_law_187 : decode cL_law 187 = .ok (.iadd, 1) := by decide +kernel
theorem dL_law_188 : decode cL_law 188 = .ok (.iaload, 1) := by decide +kernel
theorem dL_law_189 : decode cL_law 189 = .ok (.aload_n 0, 1) := by decide +kernel
theorem dL_law_190 : decode cL_law 190 = .ok (.iload_n 3, 1) := by decide +kernel
theorem dL_law_191 : decode cL_law 191 = .ok (.iconst 4, 1) := by decide +kernel
theorem dL_law_192 : decode cL_law 192 = .ok (.iadd, 1) := by decide +kernel
theorem dL_law_193 : decode cL_law 193 = .ok (.iaload, 1) := by decide +kernel
theorem dL_law_194 : decode cL_law 194 = .ok (.aload_n 0, 1) := by decide +kernel
theorem dL_law_195 : decode cL_law 195 = .ok (.iload_n 3, 1) := by decide +kernel
theorem dL_law_196 : decode cL_law 196 = .ok (.iconst 5, 1) := by decide +kernel
theorem dL_law_197 : decode cL_law 197 = .ok (.iadd, 1) := by decide +kernel
theorem dL_law_198 : decode cL_law 198 = .ok (.iaload, 1) := by decide +kernel
theorem dL_law_199 : decode cL_law 199 = .ok (.invokevirtual 27, 3) := by decide +kernel
theorem dL_law_202 : decode cL_law 202 = .ok (.if_icmp .eq 156, 3) := by decide +kernel
theorem dL_law_205 : decode cL_law 205 = .ok (.iconst 0, 1) := by decide +kernel
theorem dL_law_206 : decode cL_law 206 = .ok (.ireturn, 1) := by decide +kernel
theorem dL_law_207 : decode cL_law 207 = .ok (.aload_n 1, 1) := by decide +kernel
theorem dL_law_208 : decode cL_law 208 = .ok (.aload_n 0, 1) := by decide +kernel
theorem dL_law_209 : decode cL_law 209 = .ok (.iload_n 3, 1) := by decide +kernel
theorem dL_law_210 : decode cL_law 210 = .ok (.iconst 1, 1) := by decide +kernel
theorem dL_law_211 : decode cL_law 211 = .ok (.iadd, 1) := by decide +kernel
theorem dL_law_212 : decode cL_law 212 = .ok (.iaload, 1) := by decide +kernel
theorem dL_law_213 : decode cL_law 213 = .ok (.invokevirtual 28, 3) := by decide +kernel
theorem dL_law_216 : decode cL_law 216 = .ok (.aload_n 2, 1) := by decide +kernel
theorem dL_law_217 : decode cL_law 217 = .ok (.aload_n 0, 1) := by decide +kernel
theorem dL_law_218 : decode cL_law 218 = .ok (.iload_n 3, 1) := by decide +kernel
theorem dL_law_219 : decode cL_law 219 = .ok (.iconst 1, 1) := by decide +kernel
theorem dL_law_220 : decode cL_law 220 = .ok (.iadd, 1) := by decide +kernel
theorem dL_law_221 : decode cL_law 221 = .ok (.iaload, 1) := by decide +kernel
theorem dL_law_222 : decode cL_law 222 = .ok (.invokevirtual 31, 3) := by decide +kernel
theorem dL_law_225 : decode cL_law 225 = .ok (.if_icmp .eq 133, 3) := by decide +kernel
theorem dL_law_228 : decode cL_law 228 = .ok (.iconst 0, 1) := by decide +kernel
theorem dL_law_229 : decode cL_law 229 = .ok (.ireturn, 1) := by decide +kernel
theorem dL_law_230 : decode cL_law 230 = .ok (.aload_n 1, 1) := by decide +kernel
theorem dL_law_231 : decode cL_law 231 = .ok (.invokevirtual 32, 3) := by decide +kernel
theorem dL_law_234 : decode cL_law 234 = .ok (.aload_n 2, 1) := by decide +kernel
theorem dL_law_235 : decode cL_law 235 = .ok (.invokevirtual 36, 3) := by decide +kernel
theorem dL_law_238 : decode cL_law 238 = .ok (.if_icmp .eq 120, 3) := by decide +kernel
theorem dL_law_241 : decode cL_law 241 = .ok (.iconst 0, 1) := by decide +kernel
theorem dL_law_242 : decode cL_law 242 = .ok (.ireturn, 1) := by decide +kernel
theorem dL_law_243 : decode cL_law 243 = .ok (.aload_n 1, 1) := by decide +kernel
theorem dL_law_244 : decode cL_law 244 = .ok (.aload_n 0, 1) := by decide +kernel
theorem dL_law_245 : decode cL_law 245 = .ok (.iload_n 3, 1) := by decide +kernel
theorem dL_law_246 : decode cL_law 246 = .ok (.iconst 1, 1) := by decide +kernel
theorem dL_law_247 : decode cL_law 247 = .ok (.iadd, 1) := by decide +kernel
theorem dL_law_248 : decode cL_law 248 = .ok (.iaload, 1) := by decide +kernel
theorem dL_law_249 : decode cL_law 249 = .ok (.invokevirtual 37, 3) := by decide +kernel
theorem dL_law_252 : decode cL_law 252 = .ok (.aload_n 2, 1) := by decide +kernel
theorem dL_law_253 : decode cL_law 253 = .ok (.aload_n 0, 1) := by decide +kernel
theorem dL_law_254 : decode cL_law 254 = .ok (.iload_n 3, 1) := by decide +kernel
theorem dL_law_255 : decode cL_law 255 = .ok (.iconst 1, 1) := by decide +kernel
theorem dL_law_256 : decode cL_law 256 = .ok (.iadd, 1) := by decide +kernel
theorem dL_law_257 : decode cL_law 257 = .ok (.iaload, 1) := by decide +kernel
theorem dL_law_258 : decode cL_law 258 = .ok (.invokevirtual 40, 3) := by decide +kernel
theorem dL_law_261 : decode cL_law 261 = .ok (.if_icmp .eq 97, 3) := by decide +kernel
theorem dL_law_264 : decode cL_law 264 = .ok (.iconst 0, 1) := by decide +kernel
theorem dL_law_265 : decode cL_law 265 = .ok (.ireturn, 1) := by decide +kernel
theorem dL_law_266 : decode cL_law 266 = .ok (.aload_n 1, 1) := by decide +kernel
theorem dL_law_267 : decode cL_law 267 = .ok (.aload_n 0, 1) := by decide +kernel
theorem dL_law_268 : decode cL_law 268 = .ok (.iload_n 3, 1) := by decide +kernel
theorem dL_law_269 : decode cL_law 269 = .ok (.iconst 1, 1) := by decide +kernel
theorem dL_law_270 : decode cL_law 270 = .ok (.iadd, 1) := by decide +kernel
theorem dL_law_271 : decode cL_law 271 = .ok (.iaload, 1) := by decide +kernel
theorem dL_law_272 : decode cL_law 272 = .ok (.invokevirtual 41, 3) := by decide +kernel
theorem dL_law_275 : decode cL_law 275 = .ok (.aload_n 2, 1) := by decide +kernel
theorem dL_law_276 : decode cL_law 276 = .ok (.aload_n 0, 1) := by decide +kernel
theorem dL_law_277 : decode cL_law 277 = .ok (.iload_n 3, 1) := by decide +kernel
theorem dL_law_278 : decode cL_law 278 = .ok (.iconst 1, 1) := by decide +kernel
theorem dL_law_279 : decode cL_law 279 = .ok (.iadd, 1) := by decide +kernel
theorem dL_law_280 : decode cL_law 280 = .ok (.iaload, 1) := by decide +kernel
theorem dL_law_281 : decode cL_law 281 = .ok (.invokevirtual 44, 3) := by decide +kernel
theorem dL_law_284 : decode cL_law 284 = .ok (.if_icmp .eq 74, 3) := by decide +kernel
theorem dL_law_287 : decode cL_law 287 = .ok (.iconst 0, 1) := by decide +kernel
theorem dL_law_288 : decode cL_law 288 = .ok (.ireturn, 1) := by decide +kernel
theorem dL_law_289 : decode cL_law 289 = .ok (.aload_n 1, 1) := by decide +kernel
theorem dL_law_290 : decode cL_law 290 = .ok (.aload_n 0, 1) := by decide +kernel
theorem dL_law_291 : decode cL_law 291 = .ok (.iload_n 3, 1) := by decide +kernel
theorem dL_law_292 : decode cL_law 292 = .ok (.iconst 1, 1) := by decide +kernel
theorem dL_law_293 : decode cL_law 293 = .ok (.iadd, 1) := by decide +kernel
theorem dL_law_294 : decode cL_law 294 = .ok (.iaload, 1) := by decide +kernel
theorem dL_law_295 : decode cL_law 295 = .ok (.invokevirtual 45, 3) := by decide +kernel
theorem dL_law_298 : decode cL_law 298 = .ok (.aload_n 2, 1) := by decide +kernel
theorem dL_law_299 : decode cL_law 299 = .ok (.aload_n 0, 1) := by decide +kernel
theorem dL_law_300 : decode cL_law 300 = .ok (.iload_n 3, 1) := by decide +kernel
theorem dL_law_301 : decode cL_law 301 = .ok (.iconst 1, 1) := by decide +kernel
theorem dL_law_302 : decode cL_law 302 = .ok (.iadd, 1) := by decide +kernel
theorem dL_law_303 : decode cL_law 303 = .ok (.iaload, 1) := by decide +kernel
theorem dL_law_304 : decode cL_law 304 = .ok (.invokevirtual 48, 3) := by decide +kernel
theorem dL_law_307 : decode cL_law 307 = .ok (.if_icmp .eq 51, 3) := by decide +kernel
theorem dL_law_310 : decode cL_law 310 = .ok (.iconst 0, 1) := by decide +kernel
theorem dL_law_311 : decode cL_law 311 = .ok (.ireturn, 1) := by decide +kernel
theorem dL_law_312 : decode cL_law 312 = .ok (.aload_n 1, 1) := by decide +kernel
theorem dL_law_313 : decode cL_law 313 = .ok (.aload_n 0, 1) := by decide +kernel
theorem dL_law_314 : decode cL_law 314 = .ok (.iload_n 3, 1) := by decide +kernel
theorem dL_law_315 : decode cL_law 315 = .ok (.iconst 1, 1) := by decide +kernel
theorem dL_law_316 : decode cL_law 316 = .ok (.iadd, 1) := by decide +kernel
theorem dL_law_317 : decode cL_law 317 = .ok (.iaload, 1) := by decide +kernel
theorem dL_law_318 : decode cL_law 318 = .ok (.invokevirtual 49, 3) := by decide +kernel
theorem dL_law_321 : decode cL_law 321 = .ok (.aload_n 2, 1) := by decide +kernel
theorem dL_law_322 : decode cL_law 322 = .ok (.aload_n 0, 1) := by decide +kernel
theorem dL_law_323 : decode cL_law 323 = .ok (.iload_n 3, 1) := by decide +kernel
theorem dL_law_324 : decode cL_law 324 = .ok (.iconst 1, 1) := by decide +kernel
theorem dL_law_325 : decode cL_law 325 = .ok (.iadd, 1) := by decide +kernel
theorem dL_law_326 : decode cL_law 326 = .ok (.iaload, 1) := by decide +kernel
theorem dL_law_327 : decode cL_law 327 = .ok (.invokevirtual 52, 3) := by decide +kernel
theorem dL_law_330 : decode cL_law 330 = .ok (.if_icmp .eq 28, 3) := by decide +kernel
theorem dL_law_333 : decode cL_law 333 = .ok (.iconst 0, 1) := by decide +kernel
theorem dL_law_334 : decode cL_law 334 = .ok (.ireturn, 1) := by decide +kernel
theorem dL_law_335 : decode cL_law 335 = .ok (.aload_n 1, 1) := by decide +kernel
theorem dL_law_336 : decode cL_law 336 = .ok (.aload_n 0, 1) := by decide +kernel
theorem dL_law_337 : decode cL_law 337 = .ok (.iload_n 3, 1) := by decide +kernel
theorem dL_law_338 : decode cL_law 338 = .ok (.iconst 1, 1) := by decide +kernel
theorem dL_law_339 : decode cL_law 339 = .ok (.iadd, 1) := by decide +kernel
theorem dL_law_340 : decode cL_law 340 = .ok (.iaload, 1) := by decide +kernel
theorem dL_law_341 : decode cL_law 341 = .ok (.invokevirtual 53, 3) := by decide +kernel
theorem dL_law_344 : decode cL_law 344 = .ok (.aload_n 2, 1) := by decide +kernel
theorem dL_law_345 : decode cL_law 345 = .ok (.aload_n 0, 1) := by decide +kernel
theorem dL_law_346 : decode cL_law 346 = .ok (.iload_n 3, 1) := by decide +kernel
theorem dL_law_347 : decode cL_law 347 = .ok (.iconst 1, 1) := by decide +kernel
theorem dL_law_348 : decode cL_law 348 = .ok (.iadd, 1) := by decide +kernel
theorem dL_law_349 : decode cL_law 349 = .ok (.iaload, 1) := by decide +kernel
theorem dL_law_350 : decode cL_law 350 = .ok (.invokevirtual 56, 3) := by decide +kernel
theorem dL_law_353 : decode cL_law 353 = .ok (.if_icmp .eq 5, 3) := by decide +kernel
theorem dL_law_356 : decode cL_law 356 = .ok (.iconst 0, 1) := by decide +kernel
theorem dL_law_357 : decode cL_law 357 = .ok (.ireturn, 1) := by decide +kernel
theorem dL_law_358 : decode cL_law 358 = .ok (.iinc 3 6, 3) := by decide +kernel
theorem dL_law_361 : decode cL_law 361 = .ok (.goto (-343), 3) := by decide +kernel
theorem dL_law_364 : decode cL_law 364 = .ok (.iconst 1, 1) := by decide +kernel
theorem dL_law_365 : decode cL_law 365 = .ok (.ireturn, 1) := by decide +kernel
abbrev vwCl : List vw_C := [(RX0, TX0, 6), (RX1, TX1, 4), (RX2, TX2, 4), (RX3, TX3, 7), (RX4, TX4, 5), (RX5, TX5, 22)]
end
section
/-! words on nest mates: they go along as a premise of every contract -/
def nwl : List Cond := [.methodLinkNest RX4 9 yX2_init RX4, .methodLinkNest RX4 18 yX0_init RX4, .methodLinkNest RX4 25 yX3_init RX4, .methodLinkNest RX4 32 yX1_init RX4, .methodLinkNest RX4 47 yX2_makeThing RX4, .methodLinkNest RX2 35 yX4_isPlace RX4, .methodLinkNest RX4 51 yX2_thingIn RX4, .methodLinkNest RX4 54 yX2_put RX4, .methodLinkNest RX4 62 yX0_append RX4, .methodLinkNest RX0 31 yX4_isBlock RX4, .methodLinkNest RX4 66 yX0_empty RX4, .methodLinkNest RX4 72 yX3_restart RX4, .methodLinkNest RX4 75 yX1_doBlock RX4, .methodLinkNest RX1 27 yX4_isBlock RX4, .methodLinkNest RX1 64 yX3_enterMark RX4, .methodLinkNest RX1 89 yX2_thingIn RX4, .methodLinkNest RX1 117 yX2_deepen RX4, .methodLinkNest RX1 120 yX3_enterBegun RX4, .methodLinkNest RX1 111 yX4_isThrown RX4, .methodLinkNest RX1 123 yX3_enterLeft RX4, .methodLinkNest RX1 126 yX2_isHeld RX4, .methodLinkNest RX1 129 yX2_raiseNumber RX4, .methodLinkNest RX1 95 yX2_put RX4, .methodLinkNest RX1 132 yX2_makeThing RX4, .methodLinkNest RX1 135 yX2_numberOf RX4, .methodLinkNest RX4 82 yX3_entry RX4, .methodLinkNest RX3 43 yX4_isWithin RX4, .methodLinkNest RX4 100 yX2_numberOf RX4, .fieldLinkNest RX4 103 RX2 "made" "I" RX4, .fieldLinkNest RX1 31 RX0 "sizes" "[I" RX4, .fieldLinkNest RX1 61 RX0 "kinds" "[I" RX4, .fieldLinkNest RX1 52 RX0 "as" "[I" RX4, .fieldLinkNest RX1 55 RX0 "xs" "[I" RX4, .fieldLinkNest RX1 58 RX0 "ys" "[I" RX4, .fieldLinkNest RX4 106 RX0 "total" "I" RX4, .fieldLinkNest RX4 85 RX3 "entered" "I" RX4, .fieldLinkNest RX1 47 RX3 "steps" "I" RX4, .fieldLinkNest RX4 88 RX3 "steps" "I" RX4, .fieldLinkNest RX4 91 RX3 "holds" "I" RX4, .fieldLinkNest RX4 94 RX3 "most" "I" RX4, .fieldLinkNest RX4 97 RX3 "cutShort" "I" RX4, .fieldLinkNest RX4 69 RX1 "refused" "I" RX4]
def NW (U : State) : Prop := ∀ w ∈ nwl, va_Nw w U
def nwm (w : Cond) : Bool := match w with
  | .methodLinkNest .. => true
  | .fieldLinkNest .. => true
  | _ => false
theorem nwl_m : ∀ w ∈ nwl, nwm w = true := by decide +kernel
theorem NW.warm {s U : State} (hW : s.WarmedH U.vm) (h : NW s) : NW U := by
  intro w hw
  have hm := nwl_m w hw
  have h1 := h w hw
  cases w <;> first | (simp [nwm] at hm; done) | exact va_Nw.warmM hW h1 | exact va_Nw.warmF hW h1
theorem NW.same {s U : State} (hV : s.vm = U.vm) (h : NW s) : NW U := by
  intro w hw
  have hm := nwl_m w hw
  have h1 := h w hw
  cases w <;> first | (simp [nwm] at hm; done) | exact va_Nw.same rfl hV h1
theorem NW.at {s : State} (h : NW s) (i : Nat) {w : Cond} (hi : nwl[i]? = some w) : va_Nw w s := h w (List.mem_of_getElem? hi)
/-! starts -/
def pcR (D : va_G) (ws : va_W) (tys : List (ClassId × FieldType)) (av : List Value) : Array Value → State → Prop := va_Pc av (fun U => NW U ∧ va_P D vwCl ws U.heap ∧ va_K D vwCl tys U)
def pcW (D : va_G) (ws : va_W) (tys : List (ClassId × FieldType)) (sz : Nat) (av : List Value) : Array Value → State → Prop := va_Pc av (fun U => U.heap.size = sz ∧ NW U ∧ va_P D vwCl ws U.heap ∧ va_K D vwCl tys U ∧ va_D (fun _ => True) ws)
theorem blS (av : List Value) : FrameBlind (va_Pc av NW) := fun a U g mk q => ⟨q.1, NW.same (s := U) rfl q.2⟩
theorem blR {D : va_G} {ws : va_W} {tys : List (ClassId × FieldType)} (av : List Value) : FrameBlind (pcR D ws tys av) := fun a U g mk q => ⟨q.1, NW.same (s := U) rfl q.2.1, q.2.2.1, va_K.moved (u := U) (U := U.calling g mk a) (Vm.Alike.refl U.vm) q.2.2.2⟩
theorem blW {D : va_G} {ws : va_W} {tys : List (ClassId × FieldType)} {sz : Nat} (av : List Value) : FrameBlind (pcW D ws tys sz av) := fun a U g mk q => ⟨q.1, q.2.1, NW.same (s := U) rfl q.2.2.1, q.2.2.2.1, va_K.moved (u := U) (U := U.calling g mk a) (Vm.Alike.refl U.vm) q.2.2.2.2.1, q.2.2.2.2.2⟩
theorem pS {s : State} {H : Heap} {av : List Value} (hN : NW s) : PreS s H (va_Pc av NW) av := ⟨blS av, fun U _ hW => ⟨rfl, hN.warm hW⟩⟩
theorem pR {s : State} {H : Heap} {D : va_G} {ws : va_W} {tys : List (ClassId × FieldType)} {C : String} {b : Nat} {As : List Value} (hN : NW s) (hP : va_P D vwCl ws H) (hK : va_K D vwCl tys s) {ci q0 : Nat} {q : vw_C} {fs : List Value} (hc : vwCl[ci]? = some q) (he : ws[q0]? = some (b, .inr (ci, fs))) (hC : q.1 = C) : PreV s H C b (pcR D ws tys (.ref b :: As)) As :=
  ⟨blR _, by rw [← hC]; exact va_recv hK hP hc he, fun U hU hW => ⟨rfl, hN.warm hW, by rw [hU]; exact hP, va_K.moved hW.alike hK⟩⟩
theorem pW {s : State} {H : Heap} {D : va_G} {ws : va_W} {tys : List (ClassId × FieldType)} {A : Nat → Prop} {C : String} {b : Nat} {As : List Value} (hN : NW s) (hP : va_P D vwCl ws H) (hK : va_K D vwCl tys s) (hD : va_D A ws) {ci q0 : Nat} {q : vw_C} {fs : List Value} (hc : vwCl[ci]? = some q) (he : ws[q0]? = some (b, .inr (ci, fs))) (hC : q.1 = C) : PreV s H C b (pcW D ws tys H.size (.ref b :: As)) As :=
  ⟨blW _, by rw [← hC]; exact va_recv hK hP hc he, fun U hU hW => ⟨rfl, by rw [hU], hN.warm hW, by rw [hU]; exact hP, va_K.moved hW.alike hK, hD.weaken (fun _ _ _ _ => trivial)⟩⟩
theorem pI {s : State} {H : Heap} {D : va_G} {ws : va_W} {tys : List (ClassId × FieldType)} {A : Nat → Prop} {av : List Value} (hN : NW s) (hP : va_P D vwCl ws H) (hK : va_K D vwCl tys s) (hD : va_D A ws) : PreS s H (pcW D ws tys H.size av) av :=
  ⟨blW _, fun U hU hW => ⟨rfl, by rw [hU], hN.warm hW, by rw [hU]; exact hP, va_K.moved hW.alike hK, hD.weaken (fun _ _ _ _ => trivial)⟩⟩
/-! ends -/
def QWi {S : Type} (D : va_G) (E : Int32 × S) (wd : S → va_W) (A : Nat → Prop) : Array Value → State → Outcome → State → Prop := va_Qi (fun r u => (r, u) = E) (fun u t => va_P D vwCl (wd u) t.heap ∧ va_D A (wd u)) A
def QWv {S : Type} (D : va_G) (E : S) (wd : S → va_W) (A : Nat → Prop) : Array Value → State → Outcome → State → Prop := va_Qv (fun u => u = E) (fun u t => va_P D vwCl (wd u) t.heap ∧ va_D A (wd u)) A
section KX
variable {p : Program} {l : Launch} {e : Env} {R : Room} {s : State} {m : MethodId} {args : Array Value} {below : List Frame} {meth : Method} {c : Code} {H : Heap} {locs : List Loc} {cells slots : Nat} {Q : State → Prop} {pc : Nat} {ls : Array Slot} {rest st0 : List Value} {a : Array Value} {cc : ByteArray} {D : va_G} {A : Nat → Prop}
theorem kx_read {r : Int32} (hr : va_Run p l e R s m args below meth c H locs cells slots 0 0 (F0 m pc ls st0) rest (QcRead r a) (fun _ => False)) (kk : W p l e R s m args below meth c H locs cells slots Q (F0 m (pc + 3) ls (.int r :: rest))) : W p l e R s m args below meth c H locs cells slots Q (F0 m pc ls st0) := by
  intro T hT X
  obtain ⟨v, st₀, t, T', L, h0, X', hL, e1, e2, ⟨hv, hh⟩, st⟩ := hr T hT X
  cases hv
  obtain ⟨t2, a1, b1⟩ := kk T' (by rw [e1, hh, h0]) (Stand.forget X' (fun q h => (hL q h).elim))
  exact ⟨t2, st t2 a1, b1⟩
theorem kx_wi {S : Type} {E : Int32 × S} {wd : S → va_W} {ws wc wr : va_W} {H0 : Heap} {mc ms : Nat} (hP : va_P D vwCl ws H) (hD : va_D A ws) (hS : va_S A H0 H locs) (hA : ∀ q, H0.size ≤ q → A q) (isC isR : List Nat) (hC : isC.map (fun i => ws[i]?) = wc.map some) (hR : isR.map (fun i => ws[i]?) = wr.map some) (hn : va_nd isR = true) (hdis : ∀ i ∈ isR, i ∉ isC)
    (hr : va_Run p l e R s m args below meth c H locs cells slots mc ms (F0 m pc ls st0) rest (QWi D E wd (va_A wc H.size) a) (va_A wc H.size))
    (kk : ∀ (r : Int32) (u : S) (H1 : Heap) (locs1 : List Loc), (r, u) = E → va_P D vwCl (wr ++ wd u) H1 → va_D A (wr ++ wd u) → va_S A H0 H1 locs1 → W p l e R s m args below meth c H1 locs1 (cells + mc) (slots + ms) Q (F0 m (pc + 3) ls (.int r :: rest))) : W p l e R s m args below meth c H locs cells slots Q (F0 m pc ls st0) := by
  have hF := va_free (wc := wc) hD hS hA isC hC
  refine va_calli hr hS (fun q _ h => hF q h) hF (fun r u t H1 locs1 ht hvm hw hB hz1 hk1 hS1 => ?_)
  obtain ⟨hP1, hD1⟩ := hB
  rw [ht] at hP1
  obtain ⟨hP2, hD2⟩ := va_join hP hD isC isR hC hR hn hdis hk1 hF hP1 hD1
  exact kk r u H1 locs1 hw hP2 hD2 hS1
theorem kx_wv {S : Type} {E : S} {wd : S → va_W} {ws wc wr : va_W} {H0 : Heap} {mc ms : Nat} (hP : va_P D vwCl ws H) (hD : va_D A ws) (hS : va_S A H0 H locs) (hA : ∀ q, H0.size ≤ q → A q) (isC isR : List Nat) (hC : isC.map (fun i => ws[i]?) = wc.map some) (hR : isR.map (fun i => ws[i]?) = wr.map some) (hn : va_nd isR = true) (hdis : ∀ i ∈ isR, i ∉ isC)
    (hr : va_Run p l e R s m args below meth c H locs cells slots mc ms (F0 m pc ls st0) rest (QWv D E wd (va_A wc H.size) a) (va_A wc H.size))
    (kk : ∀ (u : S) (H1 : Heap) (locs1 : List Loc), u = E → va_P D vwCl (wr ++ wd u) H1 → va_D A (wr ++ wd u) → va_S A H0 H1 locs1 → W p l e R s m args below meth c H1 locs1 (cells + mc) (slots + ms) Q (F0 m (pc + 3) ls rest)) : W p l e R s m args below meth c H locs cells slots Q (F0 m pc ls st0) := by
  have hF := va_free (wc := wc) hD hS hA isC hC
  refine va_callv hr hS (fun q _ h => hF q h) hF (fun u t H1 locs1 ht hvm hw hB hz1 hk1 hS1 => ?_)
  obtain ⟨hP1, hD1⟩ := hB
  rw [ht] at hP1
  obtain ⟨hP2, hD2⟩ := va_join hP hD isC isR hC hR hn hdis hk1 hF hP1 hD1
  exact kk u H1 locs1 hw hP2 hD2 hS1
theorem rt_i {S : Type} {E : Int32 × S} {wd : S → va_W} {v : Int32} (hexec : p.tables.exec = Jvm.exec) (hb : c.code = cc) (hr : meth.sig.returnType = some .int) (hlocks : meth.locks = false) (u : S) (hE : (v, u) = E) (hP : va_P D vwCl (wd u) H) (hD : va_D A (wd u)) (hS : va_S A s.heap H locs) (hdg : decode cc pc = .ok (.ireturn, 1)) : W p l e R s m args below meth c H locs cells slots (MQ below (QWi D E wd A) args s cells slots A) (F0 m pc ls [.int v]) :=
  W.iret hexec hb hr (fun t ht _ => ⟨⟨v, u, rfl, hE, by rw [ht]; exact hP, hD⟩, hS.F ht⟩) hS.2.2 hdg
theorem rt_z {S : Type} {E : Int32 × S} {wd : S → va_W} {v : Int32} (hexec : p.tables.exec = Jvm.exec) (hb : c.code = cc) (hr : meth.sig.returnType = some .boolean) (hn : narrow .boolean (.int v) = .int v) (hlocks : meth.locks = false) (u : S) (hE : (v, u) = E) (hP : va_P D vwCl (wd u) H) (hD : va_D A (wd u)) (hS : va_S A s.heap H locs) (hdg : decode cc pc = .ok (.ireturn, 1)) : W p l e R s m args below meth c H locs cells slots (MQ below (QWi D E wd A) args s cells slots A) (F0 m pc ls [.int v]) :=
  W.zret hexec hb hr hn (fun t ht _ => ⟨⟨v, u, rfl, hE, by rw [ht]; exact hP, hD⟩, hS.F ht⟩) hS.2.2 hdg
theorem rt_v {S : Type} {E : S} {wd : S → va_W} (hexec : p.tables.exec = Jvm.exec) (hb : c.code = cc) (hr : meth.sig.returnType = none) (hlocks : meth.locks = false) (u : S) (hE : u = E) (hP : va_P D vwCl (wd u) H) (hD : va_D A (wd u)) (hS : va_S A s.heap H locs) (hdg : decode cc pc = .ok (.return_, 1)) : W p l e R s m args below meth c H locs cells slots (MQ below (QWv D E wd A) args s cells slots A) (F0 m pc ls []) :=
  W.vret hexec hb hr (fun t ht _ => ⟨⟨u, rfl, hE, by rw [ht]; exact hP, hD⟩, hS.F ht⟩) hS.2.2 hdg
theorem rd_i {v w : Int32} (hexec : p.tables.exec = Jvm.exec) (hb : c.code = cc) (hr : meth.sig.returnType = some .int) (hlocks : meth.locks = false) (hE : v = w) (hdg : decode cc pc = .ok (.ireturn, 1)) : W p l e R s m args below meth c s.heap [] cells slots (MQ below (QcRead w) args s cells slots (fun _ => False)) (F0 m pc ls [.int v]) :=
  W.iret hexec hb hr (fun t ht _ => ⟨by rw [hE], ht⟩) (fun q h => by cases h) hdg
theorem rd_z {v w : Int32} (hexec : p.tables.exec = Jvm.exec) (hb : c.code = cc) (hr : meth.sig.returnType = some .boolean) (hn : narrow .boolean (.int v) = .int v) (hlocks : meth.locks = false) (hE : v = w) (hdg : decode cc pc = .ok (.ireturn, 1)) : W p l e R s m args below meth c s.heap [] cells slots (MQ below (QcRead w) args s cells slots (fun _ => False)) (F0 m pc ls [.int v]) :=
  W.zret hexec hb hr hn (fun t ht _ => ⟨by rw [hE], ht⟩) (fun q h => by cases h) hdg
end KX
theorem ne_ti {x k : Int32} {n : Int} (h : ¬ x = k) (hn : k.toInt = n) : x.toInt ≠ n := fun e => h (Int32.toInt_inj.mp (e.trans hn.symm))
theorem nb01 {v : Int32} (h : v = 0 ∨ v = 1) : narrow .boolean (.int v) = .int v := by rcases h with rfl | rfl <;> rfl
end
section
def f_X4_isWithin (p0 : Int32) (p1 : Int32) (p2 : Int32) : Int32 := (if p0 < p1 then 0 else (if p2 < p0 then 0 else 1))
theorem z_X4_isWithin (p0 p1 p2 : Int32) : f_X4_isWithin p0 p1 p2 = 0 ∨ f_X4_isWithin p0 p1 p2 = 1 := by
  unfold f_X4_isWithin; repeat' split
  all_goals simp
set_option maxHeartbeats 4000000 in
set_option maxRecDepth 100000 in
theorem c_X4_isWithin (l : Launch) (p0 : Int32) (p1 : Int32) (p2 : Int32) : Met l yX4_isWithin wsX4_isWithin ({ frames := 0, cells := 0, slots := 0, locals := 0 }) (va_Pc [.int p0, .int p1, .int p2] NW) (QcRead (f_X4_isWithin p0 p1 p2)) 0 0 (fun _ => False) := by
  refine Met.ofW (cc := cX4_isWithin) (maxL := 3) (ret := (some .boolean)) (by decide) rfl ?_
  intro p e s m args below meth c s₁ B hml hv
  obtain ⟨rfl, hN⟩ := hv
  have hx := B.exec
  have hb := B.bytes
  have hr := B.returns
  have hts := atoms_spec (ws := wsX4_isWithin) B.pre
  have hown : s.vm.findClass RX4 = some m.cls := findClass_of_methodNamed B.named
  have hlocks := B.notSynchronized
  have hl := lv_entry ([.int p0, .int p1, .int p2]) (n := 3) (Nat.le_of_ble_eq_true rfl)
  rw [lg_entry_eq]
  generalize (lg_sl ([.int p0, .int p1, .int p2]) ++ List.replicate (3 - (lg_sl ([.int p0, .int p1, .int p2])).length) Slot.unset).toArray = ls at hl ⊢
  have hl : lv_has ls 3 [(0, .int p0), (1, .int p1), (2, .int p2)] := hl
  refine lv_iload_n hx hb dX4_isWithin_0 rfl (lv_at hl 0 rfl) ?_
  refine lv_iload_n hx hb dX4_isWithin_1 rfl (lv_at hl 1 rfl) ?_
  refine lv_icmp_lt (tgt := 14) hx hb dX4_isWithin_2 (by decide) (fun c_1 => ?_) (fun c_1 => ?_)
  · refine lv_iconst (v := 0) hx hb dX4_isWithin_14 (by decide) ?_
    exact rd_z hx hb hr rfl hlocks (by simp only [f_X4_isWithin, if_pos c_1]) dX4_isWithin_15
  · refine lv_iload_n hx hb dX4_isWithin_5 rfl (lv_at hl 0 rfl) ?_
    refine lv_iload_n hx hb dX4_isWithin_6 rfl (lv_at hl 2 rfl) ?_
    refine lv_icmp_gt (tgt := 14) hx hb dX4_isWithin_7 (by decide) (fun c_2 => ?_) (fun c_2 => ?_)
    · refine lv_iconst (v := 0) hx hb dX4_isWithin_14 (by decide) ?_
      exact rd_z hx hb hr rfl hlocks (by simp only [f_X4_isWithin, if_neg c_1, if_pos c_2]) dX4_isWithin_15
    · refine lv_iconst (v := 1) hx hb dX4_isWithin_10 (by decide) ?_
      refine lv_goto (tgt := 15) hx hb dX4_isWithin_11 (by decide) ?_
      exact rd_z hx hb hr rfl hlocks (by simp only [f_X4_isWithin, if_neg c_1, if_neg c_2]) dX4_isWithin_15
def f_X4_isPlace (p0 : Int32) : Int32 := (f_X4_isWithin p0 0 5)
theorem z_X4_isPlace (p0 : Int32) : f_X4_isPlace p0 = 0 ∨ f_X4_isPlace p0 = 1 := z_X4_isWithin p0 0 5
set_option maxHeartbeats 4000000 in
set_option maxRecDepth 100000 in
theorem c_X4_isPlace (l : Launch) (p0 : Int32) : Met l yX4_isPlace wsX4_isPlace ({ frames := 1, cells := 0, slots := 0, locals := 22 }) (va_Pc [.int p0] NW) (QcRead (f_X4_isPlace p0)) 0 0 (fun _ => False) := by
  refine Met.ofW (cc := cX4_isPlace) (maxL := 1) (ret := (some .boolean)) (by decide) rfl ?_
  intro p e s m args below meth c s₁ B hml hv
  obtain ⟨rfl, hN⟩ := hv
  have hx := B.exec
  have hb := B.bytes
  have hr := B.returns
  have hts := atoms_spec (ws := wsX4_isPlace) B.pre
  have hown : s.vm.findClass RX4 = some m.cls := findClass_of_methodNamed B.named
  have hlocks := B.notSynchronized
  have hl := lv_entry ([.int p0]) (n := 1) (Nat.le_of_ble_eq_true rfl)
  rw [lg_entry_eq]
  generalize (lg_sl ([.int p0]) ++ List.replicate (1 - (lg_sl ([.int p0])).length) Slot.unset).toArray = ls at hl ⊢
  have hl : lv_has ls 1 [(0, .int p0)] := hl
  refine lv_iload_n hx hb dX4_isPlace_0 rfl (lv_at hl 0 rfl) ?_
  refine lv_iconst (v := 0) hx hb dX4_isPlace_1 (by decide) ?_
  refine lv_iconst (v := 5) hx hb dX4_isPlace_2 (by decide) ?_
  refine kx_read (va_runS (As := [.int p0, .int 0, .int 5]) (rest := []) ⟨hx, hb, hml, hown, hts⟩ (c_X4_isWithin l p0 0 5) (cwS 3 hts gX4_isPlace_X4_isWithin rfl rfl rfl (by decide +kernel) ⟨(Nat.le_of_ble_eq_true rfl), (Nat.le_of_ble_eq_true rfl)⟩) (pS hN) rfl rfl hl.1 rfl (lv_room (Nat.le_of_ble_eq_true rfl)) dX4_isPlace_3 ⟨Nat.zero_le _, Nat.zero_le _⟩) ?_
  exact rd_z hx hb hr (nb01 (z_X4_isWithin p0 0 5)) hlocks (by simp only [f_X4_isPlace]) dX4_isPlace_6
def f_X4_isBlock (p0 : Int32) : Int32 := (f_X4_isWithin p0 0 39)
theorem z_X4_isBlock (p0 : Int32) : f_X4_isBlock p0 = 0 ∨ f_X4_isBlock p0 = 1 := z_X4_isWithin p0 0 39
set_option maxHeartbeats 4000000 in
set_option maxRecDepth 100000 in
theorem c_X4_isBlock (l : Launch) (p0 : Int32) : Met l yX4_isBlock wsX4_isBlock ({ frames := 1, cells := 0, slots := 0, locals := 22 }) (va_Pc [.int p0] NW) (QcRead (f_X4_isBlock p0)) 0 0 (fun _ => False) := by
  refine Met.ofW (cc := cX4_isBlock) (maxL := 1) (ret := (some .boolean)) (by decide) rfl ?_
  intro p e s m args below meth c s₁ B hml hv
  obtain ⟨rfl, hN⟩ := hv
  have hx := B.exec
  have hb := B.bytes
  have hr := B.returns
  have hts := atoms_spec (ws := wsX4_isBlock) B.pre
  have hown : s.vm.findClass RX4 = some m.cls := findClass_of_methodNamed B.named
  have hlocks := B.notSynchronized
  have hl := lv_entry ([.int p0]) (n := 1) (Nat.le_of_ble_eq_true rfl)
  rw [lg_entry_eq]
  generalize (lg_sl ([.int p0]) ++ List.replicate (1 - (lg_sl ([.int p0])).length) Slot.unset).toArray = ls at hl ⊢
  have hl : lv_has ls 1 [(0, .int p0)] := hl
  refine lv_iload_n hx hb dX4_isBlock_0 rfl (lv_at hl 0 rfl) ?_
  refine lv_iconst (v := 0) hx hb dX4_isBlock_1 (by decide) ?_
  refine lv_bipush (v := 39) hx hb dX4_isBlock_2 (by decide) ?_
  refine kx_read (va_runS (As := [.int p0, .int 0, .int 39]) (rest := []) ⟨hx, hb, hml, hown, hts⟩ (c_X4_isWithin l p0 0 39) (cwS 3 hts gX4_isBlock_X4_isWithin rfl rfl rfl (by decide +kernel) ⟨(Nat.le_of_ble_eq_true rfl), (Nat.le_of_ble_eq_true rfl)⟩) (pS hN) rfl rfl hl.1 rfl (lv_room (Nat.le_of_ble_eq_true rfl)) dX4_isBlock_4 ⟨Nat.zero_le _, Nat.zero_le _⟩) ?_
  exact rd_z hx hb hr (nb01 (z_X4_isWithin p0 0 39)) hlocks (by simp only [f_X4_isBlock]) dX4_isBlock_7
def f_X4_isLater (p0 : Int32) (p1 : Int32) : Int32 := (f_X4_isWithin p0 (p1 + 1) 39)
theorem z_X4_isLater (p0 p1 : Int32) : f_X4_isLater p0 p1 = 0 ∨ f_X4_isLater p0 p1 = 1 := z_X4_isWithin p0 (p1 + 1) 39
set_option maxHeartbeats 4000000 in
set_option maxRecDepth 100000 in
theorem c_X4_isLater (l : Launch) (p0 : Int32) (p1 : Int32) : Met l yX4_isLater wsX4_isLater ({ frames := 1, cells := 0, slots := 0, locals := 22 }) (va_Pc [.int p0, .int p1] NW) (QcRead (f_X4_isLater p0 p1)) 0 0 (fun _ => False) := by
  refine Met.ofW (cc := cX4_isLater) (maxL := 2) (ret := (some .boolean)) (by decide) rfl ?_
  intro p e s m args below meth c s₁ B hml hv
  obtain ⟨rfl, hN⟩ := hv
  have hx := B.exec
  have hb := B.bytes
  have hr := B.returns
  have hts := atoms_spec (ws := wsX4_isLater) B.pre
  have hown : s.vm.findClass RX4 = some m.cls := findClass_of_methodNamed B.named
  have hlocks := B.notSynchronized
  have hl := lv_entry ([.int p0, .int p1]) (n := 2) (Nat.le_of_ble_eq_true rfl)
  rw [lg_entry_eq]
  generalize (lg_sl ([.int p0, .int p1]) ++ List.replicate (2 - (lg_sl ([.int p0, .int p1])).length) Slot.unset).toArray = ls at hl ⊢
  have hl : lv_has ls 2 [(0, .int p0), (1, .int p1)] := hl
  refine lv_iload_n hx hb dX4_isLater_0 rfl (lv_at hl 0 rfl) ?_
  refine lv_iload_n hx hb dX4_isLater_1 rfl (lv_at hl 1 rfl) ?_
  refine lv_iconst (v := 1) hx hb dX4_isLater_2 (by decide) ?_
  refine lv_iadd hx hb dX4_isLater_3 ?_
  refine lv_bipush (v := 39) hx hb dX4_isLater_4 (by decide) ?_
  refine kx_read (va_runS (As := [.int p0, .int (p1 + 1), .int 39]) (rest := []) ⟨hx, hb, hml, hown, hts⟩ (c_X4_isWithin l p0 (p1 + 1) 39) (cwS 3 hts gX4_isLater_X4_isWithin rfl rfl rfl (by decide +kernel) ⟨(Nat.le_of_ble_eq_true rfl), (Nat.le_of_ble_eq_true rfl)⟩) (pS hN) rfl rfl hl.1 rfl (lv_room (Nat.le_of_ble_eq_true rfl)) dX4_isLater_6 ⟨Nat.zero_le _, Nat.zero_le _⟩) ?_
  exact rd_z hx hb hr (nb01 (z_X4_isWithin p0 (p1 + 1) 39)) hlocks (by simp only [f_X4_isLater]) dX4_isLater_9
def f_X4_isThrown (p0 : Int32) : Int32 := (if p0 ≤ 100 then 0 else 1)
theorem z_X4_isThrown (p0 : Int32) : f_X4_isThrown p0 = 0 ∨ f_X4_isThrown p0 = 1 := by
  unfold f_X4_isThrown; repeat' split
  all_goals simp
set_option maxHeartbeats 4000000 in
set_option maxRecDepth 100000 in
theorem c_X4_isThrown (l : Launch) (p0 : Int32) : Met l yX4_isThrown wsX4_isThrown ({ frames := 0, cells := 0, slots := 0, locals := 0 }) (va_Pc [.int p0] NW) (QcRead (f_X4_isThrown p0)) 0 0 (fun _ => False) := by
  refine Met.ofW (cc := cX4_isThrown) (maxL := 1) (ret := (some .boolean)) (by decide) rfl ?_
  intro p e s m args below meth c s₁ B hml hv
  obtain ⟨rfl, hN⟩ := hv
  have hx := B.exec
  have hb := B.bytes
  have hr := B.returns
  have hts := atoms_spec (ws := wsX4_isThrown) B.pre
  have hown : s.vm.findClass RX4 = some m.cls := findClass_of_methodNamed B.named
  have hlocks := B.notSynchronized
  have hl := lv_entry ([.int p0]) (n := 1) (Nat.le_of_ble_eq_true rfl)
  rw [lg_entry_eq]
  generalize (lg_sl ([.int p0]) ++ List.replicate (1 - (lg_sl ([.int p0])).length) Slot.unset).toArray = ls at hl ⊢
  have hl : lv_has ls 1 [(0, .int p0)] := hl
  refine lv_iload_n hx hb dX4_isThrown_0 rfl (lv_at hl 0 rfl) ?_
  refine lv_bipush (v := 100) hx hb dX4_isThrown_1 (by decide) ?_
  refine lv_icmp_le (tgt := 10) hx hb dX4_isThrown_3 (by decide) (fun c_1 => ?_) (fun c_1 => ?_)
  · refine lv_iconst (v := 0) hx hb dX4_isThrown_10 (by decide) ?_
    exact rd_z hx hb hr rfl hlocks (by simp only [f_X4_isThrown, if_pos c_1]) dX4_isThrown_11
  · refine lv_iconst (v := 1) hx hb dX4_isThrown_6 (by decide) ?_
    refine lv_goto (tgt := 11) hx hb dX4_isThrown_7 (by decide) ?_
    exact rd_z hx hb hr rfl hlocks (by simp only [f_X4_isThrown, if_neg c_1]) dX4_isThrown_11
def f_X4_isStep (p0 : Int32) (p1 : Int32) (p2 : Int32) (p3 : Int32) (p4 : Int32) : Int32 := (if (f_X4_isBlock p0) = 0 then 0 else (if p1 = 0 then 1 else (if p1 = 1 then (if (f_X4_isPlace p2) = 0 then 0 else (if (f_X4_isLater p3 p0) = 0 then 0 else 1)) else (if p1 = 2 then (if (f_X4_isWithin p2 0 5) = 0 then 0 else (if (f_X4_isLater p3 p0) = 0 then 0 else 1)) else (if p1 = 3 then 1 else (if p1 = 4 then 1 else (if p1 = 5 then 1 else (if p1 = 6 then (f_X4_isWithin p2 1 9) else (if p1 = 7 then (if (f_X4_isWithin p2 0 13) = 0 then 0 else (if (f_X4_isLater p3 p0) = 0 then 0 else (if (f_X4_isLater p4 p0) = 0 then 0 else 1))) else (if p1 = 8 then (if (f_X4_isLater p3 p0) = 0 then 0 else (if (f_X4_isLater p4 p0) = 0 then 0 else 1)) else (if p1 = 9 then (f_X4_isLater p3 p0) else (if p1 = 10 then (f_X4_isPlace p3) else (if p1 = 11 then (if (f_X4_isPlace p2) = 0 then 0 else (if (f_X4_isPlace p3) = 0 then 0 else 1)) else (if p1 = 12 then (f_X4_isPlace p2) else (if p1 = 13 then (f_X4_isPlace p2) else (if p1 = 14 then 1 else 0))))))))))))))))
set_option maxHeartbeats 4000000 in
set_option maxRecDepth 100000 in
theorem c_X4_isStep (l : Launch) (p0 : Int32) (p1 : Int32) (p2 : Int32) (p3 : Int32) (p4 : Int32) : Met l yX4_isStep wsX4_isStep ({ frames := 2, cells := 0, slots := 0, locals := 43 }) (va_Pc [.int p0, .int p1, .int p2, .int p3, .int p4] NW) (QcRead (f_X4_isStep p0 p1 p2 p3 p4)) 0 0 (fun _ => False) := by
  refine Met.ofW (cc := cX4_isStep) (maxL := 5) (ret := (some .boolean)) (by decide) rfl ?_
  intro p e s m args below meth c s₁ B hml hv
  obtain ⟨rfl, hN⟩ := hv
  have hx := B.exec
  have hb := B.bytes
  have hr := B.returns
  have hts := atoms_spec (ws := wsX4_isStep) B.pre
  have hown : s.vm.findClass RX4 = some m.cls := findClass_of_methodNamed B.named
  have hlocks := B.notSynchronized
  have hl := lv_entry ([.int p0, .int p1, .int p2, .int p3, .int p4]) (n := 5) (Nat.le_of_ble_eq_true rfl)
  rw [lg_entry_eq]
  generalize (lg_sl ([.int p0, .int p1, .int p2, .int p3, .int p4]) ++ List.replicate (5 - (lg_sl ([.int p0, .int p1, .int p2, .int p3, .int p4])).length) Slot.unset).toArray = ls at hl ⊢
  have hl : lv_has ls 5 [(0, .int p0), (1, .int p1), (2, .int p2), (3, .int p3), (4, .int p4)] := hl
  refine lv_iload_n hx hb dX4_isStep_0 rfl (lv_at hl 0 rfl) ?_
  refine kx_read (va_runS (As := [.int p0]) (rest := []) ⟨hx, hb, hml, hown, hts⟩ (c_X4_isBlock l p0) (cwS 1 hts gX4_isStep_X4_isBlock rfl rfl rfl (by decide +kernel) ⟨(Nat.le_of_ble_eq_true rfl), (Nat.le_of_ble_eq_true rfl)⟩) (pS hN) rfl rfl hl.1 rfl (lv_room (Nat.le_of_ble_eq_true rfl)) dX4_isStep_1 ⟨Nat.zero_le _, Nat.zero_le _⟩) ?_
  refine lv_if_ne (tgt := 9) hx hb dX4_isStep_4 (by decide) (fun c_1 => ?_) (fun c_1 => ?_)
  · refine lv_iload_n hx hb dX4_isStep_9 rfl (lv_at hl 1 rfl) ?_
    by_cases s_2 : p1 = 0
    · refine lv_tableIn (tgt := 84) (off := 74) hx hb dX4_isStep_10 (by rw [s_2]; decide) (by rw [s_2]; decide) (by rw [s_2]; rfl) (by decide) ?_
      refine lv_iconst (v := 1) hx hb dX4_isStep_84 (by decide) ?_
      exact rd_z hx hb hr rfl hlocks (by simp only [f_X4_isStep, if_neg c_1, if_pos s_2]) dX4_isStep_85
    by_cases s_3 : p1 = 1
    · refine lv_tableIn (tgt := 86) (off := 76) hx hb dX4_isStep_10 (by rw [s_3]; decide) (by rw [s_3]; decide) (by rw [s_3]; rfl) (by decide) ?_
      refine lv_iload_n hx hb dX4_isStep_86 rfl (lv_at hl 2 rfl) ?_
      refine kx_read (va_runS (As := [.int p2]) (rest := []) ⟨hx, hb, hml, hown, hts⟩ (c_X4_isPlace l p2) (cwS 1 hts gX4_isStep_X4_isPlace rfl rfl rfl (by decide +kernel) ⟨(Nat.le_of_ble_eq_true rfl), (Nat.le_of_ble_eq_true rfl)⟩) (pS hN) rfl rfl hl.1 rfl (lv_room (Nat.le_of_ble_eq_true rfl)) dX4_isStep_87 ⟨Nat.zero_le _, Nat.zero_le _⟩) ?_
      refine lv_if_eq (tgt := 105) hx hb dX4_isStep_90 (by decide) (fun c_4 => ?_) (fun c_4 => ?_)
      · refine lv_iconst (v := 0) hx hb dX4_isStep_105 (by decide) ?_
        exact rd_z hx hb hr rfl hlocks (by simp only [f_X4_isStep, if_neg c_1, if_neg s_2, if_pos s_3, if_pos c_4]) dX4_isStep_106
      · refine lv_iload_n hx hb dX4_isStep_93 rfl (lv_at hl 3 rfl) ?_
        refine lv_iload_n hx hb dX4_isStep_94 rfl (lv_at hl 0 rfl) ?_
        refine kx_read (va_runS (As := [.int p3, .int p0]) (rest := []) ⟨hx, hb, hml, hown, hts⟩ (c_X4_isLater l p3 p0) (cwS 2 hts gX4_isStep_X4_isLater rfl rfl rfl (by decide +kernel) ⟨(Nat.le_of_ble_eq_true rfl), (Nat.le_of_ble_eq_true rfl)⟩) (pS hN) rfl rfl hl.1 rfl (lv_room (Nat.le_of_ble_eq_true rfl)) dX4_isStep_95 ⟨Nat.zero_le _, Nat.zero_le _⟩) ?_
        refine lv_if_eq (tgt := 105) hx hb dX4_isStep_98 (by decide) (fun c_5 => ?_) (fun c_5 => ?_)
        · refine lv_iconst (v := 0) hx hb dX4_isStep_105 (by decide) ?_
          exact rd_z hx hb hr rfl hlocks (by simp only [f_X4_isStep, if_neg c_1, if_neg s_2, if_pos s_3, if_neg c_4, if_pos c_5]) dX4_isStep_106
        · refine lv_iconst (v := 1) hx hb dX4_isStep_101 (by decide) ?_
          refine lv_goto (tgt := 106) hx hb dX4_isStep_102 (by decide) ?_
          exact rd_z hx hb hr rfl hlocks (by simp only [f_X4_isStep, if_neg c_1, if_neg s_2, if_pos s_3, if_neg c_4, if_neg c_5]) dX4_isStep_106
    by_cases s_6 : p1 = 2
    · refine lv_tableIn (tgt := 107) (off := 97) hx hb dX4_isStep_10 (by rw [s_6]; decide) (by rw [s_6]; decide) (by rw [s_6]; rfl) (by decide) ?_
      refine lv_iload_n hx hb dX4_isStep_107 rfl (lv_at hl 2 rfl) ?_
      refine lv_iconst (v := 0) hx hb dX4_isStep_108 (by decide) ?_
      refine lv_iconst (v := 5) hx hb dX4_isStep_109 (by decide) ?_
      refine kx_read (va_runS (As := [.int p2, .int 0, .int 5]) (rest := []) ⟨hx, hb, hml, hown, hts⟩ (c_X4_isWithin l p2 0 5) (cwS 3 hts gX4_isStep_X4_isWithin rfl rfl rfl (by decide +kernel) ⟨(Nat.le_of_ble_eq_true rfl), (Nat.le_of_ble_eq_true rfl)⟩) (pS hN) rfl rfl hl.1 rfl (lv_room (Nat.le_of_ble_eq_true rfl)) dX4_isStep_110 ⟨Nat.zero_le _, Nat.zero_le _⟩) ?_
      refine lv_if_eq (tgt := 128) hx hb dX4_isStep_113 (by decide) (fun c_7 => ?_) (fun c_7 => ?_)
      · refine lv_iconst (v := 0) hx hb dX4_isStep_128 (by decide) ?_
        exact rd_z hx hb hr rfl hlocks (by simp only [f_X4_isStep, if_neg c_1, if_neg s_2, if_neg s_3, if_pos s_6, if_pos c_7]) dX4_isStep_129
      · refine lv_iload_n hx hb dX4_isStep_116 rfl (lv_at hl 3 rfl) ?_
        refine lv_iload_n hx hb dX4_isStep_117 rfl (lv_at hl 0 rfl) ?_
        refine kx_read (va_runS (As := [.int p3, .int p0]) (rest := []) ⟨hx, hb, hml, hown, hts⟩ (c_X4_isLater l p3 p0) (cwS 2 hts gX4_isStep_X4_isLater rfl rfl rfl (by decide +kernel) ⟨(Nat.le_of_ble_eq_true rfl), (Nat.le_of_ble_eq_true rfl)⟩) (pS hN) rfl rfl hl.1 rfl (lv_room (Nat.le_of_ble_eq_true rfl)) dX4_isStep_118 ⟨Nat.zero_le _, Nat.zero_le _⟩) ?_
        refine lv_if_eq (tgt := 128) hx hb dX4_isStep_121 (by decide) (fun c_8 => ?_) (fun c_8 => ?_)
        · refine lv_iconst (v := 0) hx hb dX4_isStep_128 (by decide) ?_
          exact rd_z hx hb hr rfl hlocks (by simp only [f_X4_isStep, if_neg c_1, if_neg s_2, if_neg s_3, if_pos s_6, if_neg c_7, if_pos c_8]) dX4_isStep_129
        · refine lv_iconst (v := 1) hx hb dX4_isStep_124 (by decide) ?_
          refine lv_goto (tgt := 129) hx hb dX4_isStep_125 (by decide) ?_
          exact rd_z hx hb hr rfl hlocks (by simp only [f_X4_isStep, if_neg c_1, if_neg s_2, if_neg s_3, if_pos s_6, if_neg c_7, if_neg c_8]) dX4_isStep_129
    by_cases s_9 : p1 = 3
    · refine lv_tableIn (tgt := 84) (off := 74) hx hb dX4_isStep_10 (by rw [s_9]; decide) (by rw [s_9]; decide) (by rw [s_9]; rfl) (by decide) ?_
      refine lv_iconst (v := 1) hx hb dX4_isStep_84 (by decide) ?_
      exact rd_z hx hb hr rfl hlocks (by simp only [f_X4_isStep, if_neg c_1, if_neg s_2, if_neg s_3, if_neg s_6, if_pos s_9]) dX4_isStep_85
    by_cases s_10 : p1 = 4
    · refine lv_tableIn (tgt := 84) (off := 74) hx hb dX4_isStep_10 (by rw [s_10]; decide) (by rw [s_10]; decide) (by rw [s_10]; rfl) (by decide) ?_
      refine lv_iconst (v := 1) hx hb dX4_isStep_84 (by decide) ?_
      exact rd_z hx hb hr rfl hlocks (by simp only [f_X4_isStep, if_neg c_1, if_neg s_2, if_neg s_3, if_neg s_6, if_neg s_9, if_pos s_10]) dX4_isStep_85
    by_cases s_11 : p1 = 5
    · refine lv_tableIn (tgt := 84) (off := 74) hx hb dX4_isStep_10 (by rw [s_11]; decide) (by rw [s_11]; decide) (by rw [s_11]; rfl) (by decide) ?_
      refine lv_iconst (v := 1) hx hb dX4_isStep_84 (by decide) ?_
      exact rd_z hx hb hr rfl hlocks (by simp only [f_X4_isStep, if_neg c_1, if_neg s_2, if_neg s_3, if_neg s_6, if_neg s_9, if_neg s_10, if_pos s_11]) dX4_isStep_85
    by_cases s_12 : p1 = 6
    · refine lv_tableIn (tgt := 130) (off := 120) hx hb dX4_isStep_10 (by rw [s_12]; decide) (by rw [s_12]; decide) (by rw [s_12]; rfl) (by decide) ?_
      refine lv_iload_n hx hb dX4_isStep_130 rfl (lv_at hl 2 rfl) ?_
      refine lv_iconst (v := 1) hx hb dX4_isStep_131 (by decide) ?_
      refine lv_bipush (v := 9) hx hb dX4_isStep_132 (by decide) ?_
      refine kx_read (va_runS (As := [.int p2, .int 1, .int 9]) (rest := []) ⟨hx, hb, hml, hown, hts⟩ (c_X4_isWithin l p2 1 9) (cwS 3 hts gX4_isStep_X4_isWithin rfl rfl rfl (by decide +kernel) ⟨(Nat.le_of_ble_eq_true rfl), (Nat.le_of_ble_eq_true rfl)⟩) (pS hN) rfl rfl hl.1 rfl (lv_room (Nat.le_of_ble_eq_true rfl)) dX4_isStep_134 ⟨Nat.zero_le _, Nat.zero_le _⟩) ?_
      exact rd_z hx hb hr (nb01 (z_X4_isWithin p2 1 9)) hlocks (by simp only [f_X4_isStep, if_neg c_1, if_neg s_2, if_neg s_3, if_neg s_6, if_neg s_9, if_neg s_10, if_neg s_11, if_pos s_12]) dX4_isStep_137
    by_cases s_13 : p1 = 7
    · refine lv_tableIn (tgt := 138) (off := 128) hx hb dX4_isStep_10 (by rw [s_13]; decide) (by rw [s_13]; decide) (by rw [s_13]; rfl) (by decide) ?_
      refine lv_iload_n hx hb dX4_isStep_138 rfl (lv_at hl 2 rfl) ?_
      refine lv_iconst (v := 0) hx hb dX4_isStep_139 (by decide) ?_
      refine lv_bipush (v := 13) hx hb dX4_isStep_140 (by decide) ?_
      refine kx_read (va_runS (As := [.int p2, .int 0, .int 13]) (rest := []) ⟨hx, hb, hml, hown, hts⟩ (c_X4_isWithin l p2 0 13) (cwS 3 hts gX4_isStep_X4_isWithin rfl rfl rfl (by decide +kernel) ⟨(Nat.le_of_ble_eq_true rfl), (Nat.le_of_ble_eq_true rfl)⟩) (pS hN) rfl rfl hl.1 rfl (lv_room (Nat.le_of_ble_eq_true rfl)) dX4_isStep_142 ⟨Nat.zero_le _, Nat.zero_le _⟩) ?_
      refine lv_if_eq (tgt := 169) hx hb dX4_isStep_145 (by decide) (fun c_14 => ?_) (fun c_14 => ?_)
      · refine lv_iconst (v := 0) hx hb dX4_isStep_169 (by decide) ?_
        exact rd_z hx hb hr rfl hlocks (by simp only [f_X4_isStep, if_neg c_1, if_neg s_2, if_neg s_3, if_neg s_6, if_neg s_9, if_neg s_10, if_neg s_11, if_neg s_12, if_pos s_13, if_pos c_14]) dX4_isStep_170
      · refine lv_iload_n hx hb dX4_isStep_148 rfl (lv_at hl 3 rfl) ?_
        refine lv_iload_n hx hb dX4_isStep_149 rfl (lv_at hl 0 rfl) ?_
        refine kx_read (va_runS (As := [.int p3, .int p0]) (rest := []) ⟨hx, hb, hml, hown, hts⟩ (c_X4_isLater l p3 p0) (cwS 2 hts gX4_isStep_X4_isLater rfl rfl rfl (by decide +kernel) ⟨(Nat.le_of_ble_eq_true rfl), (Nat.le_of_ble_eq_true rfl)⟩) (pS hN) rfl rfl hl.1 rfl (lv_room (Nat.le_of_ble_eq_true rfl)) dX4_isStep_150 ⟨Nat.zero_le _, Nat.zero_le _⟩) ?_
        refine lv_if_eq (tgt := 169) hx hb dX4_isStep_153 (by decide) (fun c_15 => ?_) (fun c_15 => ?_)
        · refine lv_iconst (v := 0) hx hb dX4_isStep_169 (by decide) ?_
          exact rd_z hx hb hr rfl hlocks (by simp only [f_X4_isStep, if_neg c_1, if_neg s_2, if_neg s_3, if_neg s_6, if_neg s_9, if_neg s_10, if_neg s_11, if_neg s_12, if_pos s_13, if_neg c_14, if_pos c_15]) dX4_isStep_170
        · refine lv_iload hx hb dX4_isStep_156 (lv_at hl 4 rfl) ?_
          refine lv_iload_n hx hb dX4_isStep_158 rfl (lv_at hl 0 rfl) ?_
          refine kx_read (va_runS (As := [.int p4, .int p0]) (rest := []) ⟨hx, hb, hml, hown, hts⟩ (c_X4_isLater l p4 p0) (cwS 2 hts gX4_isStep_X4_isLater rfl rfl rfl (by decide +kernel) ⟨(Nat.le_of_ble_eq_true rfl), (Nat.le_of_ble_eq_true rfl)⟩) (pS hN) rfl rfl hl.1 rfl (lv_room (Nat.le_of_ble_eq_true rfl)) dX4_isStep_159 ⟨Nat.zero_le _, Nat.zero_le _⟩) ?_
          refine lv_if_eq (tgt := 169) hx hb dX4_isStep_162 (by decide) (fun c_16 => ?_) (fun c_16 => ?_)
          · refine lv_iconst (v := 0) hx hb dX4_isStep_169 (by decide) ?_
            exact rd_z hx hb hr rfl hlocks (by simp only [f_X4_isStep, if_neg c_1, if_neg s_2, if_neg s_3, if_neg s_6, if_neg s_9, if_neg s_10, if_neg s_11, if_neg s_12, if_pos s_13, if_neg c_14, if_neg c_15, if_pos c_16]) dX4_isStep_170
          · refine lv_iconst (v := 1) hx hb dX4_isStep_165 (by decide) ?_
            refine lv_goto (tgt := 170) hx hb dX4_isStep_166 (by decide) ?_
            exact rd_z hx hb hr rfl hlocks (by simp only [f_X4_isStep, if_neg c_1, if_neg s_2, if_neg s_3, if_neg s_6, if_neg s_9, if_neg s_10, if_neg s_11, if_neg s_12, if_pos s_13, if_neg c_14, if_neg c_15, if_neg c_16]) dX4_isStep_170
    by_cases s_17 : p1 = 8
    · refine lv_tableIn (tgt := 171) (off := 161) hx hb dX4_isStep_10 (by rw [s_17]; decide) (by rw [s_17]; decide) (by rw [s_17]; rfl) (by decide) ?_
      refine lv_iload_n hx hb dX4_isStep_171 rfl (lv_at hl 3 rfl) ?_
      refine lv_iload_n hx hb dX4_isStep_172 rfl (lv_at hl 0 rfl) ?_
      refine kx_read (va_runS (As := [.int p3, .int p0]) (rest := []) ⟨hx, hb, hml, hown, hts⟩ (c_X4_isLater l p3 p0) (cwS 2 hts gX4_isStep_X4_isLater rfl rfl rfl (by decide +kernel) ⟨(Nat.le_of_ble_eq_true rfl), (Nat.le_of_ble_eq_true rfl)⟩) (pS hN) rfl rfl hl.1 rfl (lv_room (Nat.le_of_ble_eq_true rfl)) dX4_isStep_173 ⟨Nat.zero_le _, Nat.zero_le _⟩) ?_
      refine lv_if_eq (tgt := 192) hx hb dX4_isStep_176 (by decide) (fun c_18 => ?_) (fun c_18 => ?_)
      · refine lv_iconst (v := 0) hx hb dX4_isStep_192 (by decide) ?_
        exact rd_z hx hb hr rfl hlocks (by simp only [f_X4_isStep, if_neg c_1, if_neg s_2, if_neg s_3, if_neg s_6, if_neg s_9, if_neg s_10, if_neg s_11, if_neg s_12, if_neg s_13, if_pos s_17, if_pos c_18]) dX4_isStep_193
      · refine lv_iload hx hb dX4_isStep_179 (lv_at hl 4 rfl) ?_
        refine lv_iload_n hx hb dX4_isStep_181 rfl (lv_at hl 0 rfl) ?_
        refine kx_read (va_runS (As := [.int p4, .int p0]) (rest := []) ⟨hx, hb, hml, hown, hts⟩ (c_X4_isLater l p4 p0) (cwS 2 hts gX4_isStep_X4_isLater rfl rfl rfl (by decide +kernel) ⟨(Nat.le_of_ble_eq_true rfl), (Nat.le_of_ble_eq_true rfl)⟩) (pS hN) rfl rfl hl.1 rfl (lv_room (Nat.le_of_ble_eq_true rfl)) dX4_isStep_182 ⟨Nat.zero_le _, Nat.zero_le _⟩) ?_
        refine lv_if_eq (tgt := 192) hx hb dX4_isStep_185 (by decide) (fun c_19 => ?_) (fun c_19 => ?_)
        · refine lv_iconst (v := 0) hx hb dX4_isStep_192 (by decide) ?_
          exact rd_z hx hb hr rfl hlocks (by simp only [f_X4_isStep, if_neg c_1, if_neg s_2, if_neg s_3, if_neg s_6, if_neg s_9, if_neg s_10, if_neg s_11, if_neg s_12, if_neg s_13, if_pos s_17, if_neg c_18, if_pos c_19]) dX4_isStep_193
        · refine lv_iconst (v := 1) hx hb dX4_isStep_188 (by decide) ?_
          refine lv_goto (tgt := 193) hx hb dX4_isStep_189 (by decide) ?_
          exact rd_z hx hb hr rfl hlocks (by simp only [f_X4_isStep, if_neg c_1, if_neg s_2, if_neg s_3, if_neg s_6, if_neg s_9, if_neg s_10, if_neg s_11, if_neg s_12, if_neg s_13, if_pos s_17, if_neg c_18, if_neg c_19]) dX4_isStep_193
    by_cases s_20 : p1 = 9
    · refine lv_tableIn (tgt := 194) (off := 184) hx hb dX4_isStep_10 (by rw [s_20]; decide) (by rw [s_20]; decide) (by rw [s_20]; rfl) (by decide) ?_
      refine lv_iload_n hx hb dX4_isStep_194 rfl (lv_at hl 3 rfl) ?_
      refine lv_iload_n hx hb dX4_isStep_195 rfl (lv_at hl 0 rfl) ?_
      refine kx_read (va_runS (As := [.int p3, .int p0]) (rest := []) ⟨hx, hb, hml, hown, hts⟩ (c_X4_isLater l p3 p0) (cwS 2 hts gX4_isStep_X4_isLater rfl rfl rfl (by decide +kernel) ⟨(Nat.le_of_ble_eq_true rfl), (Nat.le_of_ble_eq_true rfl)⟩) (pS hN) rfl rfl hl.1 rfl (lv_room (Nat.le_of_ble_eq_true rfl)) dX4_isStep_196 ⟨Nat.zero_le _, Nat.zero_le _⟩) ?_
      exact rd_z hx hb hr (nb01 (z_X4_isLater p3 p0)) hlocks (by simp only [f_X4_isStep, if_neg c_1, if_neg s_2, if_neg s_3, if_neg s_6, if_neg s_9, if_neg s_10, if_neg s_11, if_neg s_12, if_neg s_13, if_neg s_17, if_pos s_20]) dX4_isStep_199
    by_cases s_21 : p1 = 10
    · refine lv_tableIn (tgt := 200) (off := 190) hx hb dX4_isStep_10 (by rw [s_21]; decide) (by rw [s_21]; decide) (by rw [s_21]; rfl) (by decide) ?_
      refine lv_iload_n hx hb dX4_isStep_200 rfl (lv_at hl 3 rfl) ?_
      refine kx_read (va_runS (As := [.int p3]) (rest := []) ⟨hx, hb, hml, hown, hts⟩ (c_X4_isPlace l p3) (cwS 1 hts gX4_isStep_X4_isPlace rfl rfl rfl (by decide +kernel) ⟨(Nat.le_of_ble_eq_true rfl), (Nat.le_of_ble_eq_true rfl)⟩) (pS hN) rfl rfl hl.1 rfl (lv_room (Nat.le_of_ble_eq_true rfl)) dX4_isStep_201 ⟨Nat.zero_le _, Nat.zero_le _⟩) ?_
      exact rd_z hx hb hr (nb01 (z_X4_isPlace p3)) hlocks (by simp only [f_X4_isStep, if_neg c_1, if_neg s_2, if_neg s_3, if_neg s_6, if_neg s_9, if_neg s_10, if_neg s_11, if_neg s_12, if_neg s_13, if_neg s_17, if_neg s_20, if_pos s_21]) dX4_isStep_204
    by_cases s_22 : p1 = 11
    · refine lv_tableIn (tgt := 205) (off := 195) hx hb dX4_isStep_10 (by rw [s_22]; decide) (by rw [s_22]; decide) (by rw [s_22]; rfl) (by decide) ?_
      refine lv_iload_n hx hb dX4_isStep_205 rfl (lv_at hl 2 rfl) ?_
      refine kx_read (va_runS (As := [.int p2]) (rest := []) ⟨hx, hb, hml, hown, hts⟩ (c_X4_isPlace l p2) (cwS 1 hts gX4_isStep_X4_isPlace rfl rfl rfl (by decide +kernel) ⟨(Nat.le_of_ble_eq_true rfl), (Nat.le_of_ble_eq_true rfl)⟩) (pS hN) rfl rfl hl.1 rfl (lv_room (Nat.le_of_ble_eq_true rfl)) dX4_isStep_206 ⟨Nat.zero_le _, Nat.zero_le _⟩) ?_
      refine lv_if_eq (tgt := 223) hx hb dX4_isStep_209 (by decide) (fun c_23 => ?_) (fun c_23 => ?_)
      · refine lv_iconst (v := 0) hx hb dX4_isStep_223 (by decide) ?_
        exact rd_z hx hb hr rfl hlocks (by simp only [f_X4_isStep, if_neg c_1, if_neg s_2, if_neg s_3, if_neg s_6, if_neg s_9, if_neg s_10, if_neg s_11, if_neg s_12, if_neg s_13, if_neg s_17, if_neg s_20, if_neg s_21, if_pos s_22, if_pos c_23]) dX4_isStep_224
      · refine lv_iload_n hx hb dX4_isStep_212 rfl (lv_at hl 3 rfl) ?_
        refine kx_read (va_runS (As := [.int p3]) (rest := []) ⟨hx, hb, hml, hown, hts⟩ (c_X4_isPlace l p3) (cwS 1 hts gX4_isStep_X4_isPlace rfl rfl rfl (by decide +kernel) ⟨(Nat.le_of_ble_eq_true rfl), (Nat.le_of_ble_eq_true rfl)⟩) (pS hN) rfl rfl hl.1 rfl (lv_room (Nat.le_of_ble_eq_true rfl)) dX4_isStep_213 ⟨Nat.zero_le _, Nat.zero_le _⟩) ?_
        refine lv_if_eq (tgt := 223) hx hb dX4_isStep_216 (by decide) (fun c_24 => ?_) (fun c_24 => ?_)
        · refine lv_iconst (v := 0) hx hb dX4_isStep_223 (by decide) ?_
          exact rd_z hx hb hr rfl hlocks (by simp only [f_X4_isStep, if_neg c_1, if_neg s_2, if_neg s_3, if_neg s_6, if_neg s_9, if_neg s_10, if_neg s_11, if_neg s_12, if_neg s_13, if_neg s_17, if_neg s_20, if_neg s_21, if_pos s_22, if_neg c_23, if_pos c_24]) dX4_isStep_224
        · refine lv_iconst (v := 1) hx hb dX4_isStep_219 (by decide) ?_
          refine lv_goto (tgt := 224) hx hb dX4_isStep_220 (by decide) ?_
          exact rd_z hx hb hr rfl hlocks (by simp only [f_X4_isStep, if_neg c_1, if_neg s_2, if_neg s_3, if_neg s_6, if_neg s_9, if_neg s_10, if_neg s_11, if_neg s_12, if_neg s_13, if_neg s_17, if_neg s_20, if_neg s_21, if_pos s_22, if_neg c_23, if_neg c_24]) dX4_isStep_224
    by_cases s_25 : p1 = 12
    · refine lv_tableIn (tgt := 225) (off := 215) hx hb dX4_isStep_10 (by rw [s_25]; decide) (by rw [s_25]; decide) (by rw [s_25]; rfl) (by decide) ?_
      refine lv_iload_n hx hb dX4_isStep_225 rfl (lv_at hl 2 rfl) ?_
      refine kx_read (va_runS (As := [.int p2]) (rest := []) ⟨hx, hb, hml, hown, hts⟩ (c_X4_isPlace l p2) (cwS 1 hts gX4_isStep_X4_isPlace rfl rfl rfl (by decide +kernel) ⟨(Nat.le_of_ble_eq_true rfl), (Nat.le_of_ble_eq_true rfl)⟩) (pS hN) rfl rfl hl.1 rfl (lv_room (Nat.le_of_ble_eq_true rfl)) dX4_isStep_226 ⟨Nat.zero_le _, Nat.zero_le _⟩) ?_
      exact rd_z hx hb hr (nb01 (z_X4_isPlace p2)) hlocks (by simp only [f_X4_isStep, if_neg c_1, if_neg s_2, if_neg s_3, if_neg s_6, if_neg s_9, if_neg s_10, if_neg s_11, if_neg s_12, if_neg s_13, if_neg s_17, if_neg s_20, if_neg s_21, if_neg s_22, if_pos s_25]) dX4_isStep_229
    by_cases s_26 : p1 = 13
    · refine lv_tableIn (tgt := 225) (off := 215) hx hb dX4_isStep_10 (by rw [s_26]; decide) (by rw [s_26]; decide) (by rw [s_26]; rfl) (by decide) ?_
      refine lv_iload_n hx hb dX4_isStep_225 rfl (lv_at hl 2 rfl) ?_
      refine kx_read (va_runS (As := [.int p2]) (rest := []) ⟨hx, hb, hml, hown, hts⟩ (c_X4_isPlace l p2) (cwS 1 hts gX4_isStep_X4_isPlace rfl rfl rfl (by decide +kernel) ⟨(Nat.le_of_ble_eq_true rfl), (Nat.le_of_ble_eq_true rfl)⟩) (pS hN) rfl rfl hl.1 rfl (lv_room (Nat.le_of_ble_eq_true rfl)) dX4_isStep_226 ⟨Nat.zero_le _, Nat.zero_le _⟩) ?_
      exact rd_z hx hb hr (nb01 (z_X4_isPlace p2)) hlocks (by simp only [f_X4_isStep, if_neg c_1, if_neg s_2, if_neg s_3, if_neg s_6, if_neg s_9, if_neg s_10, if_neg s_11, if_neg s_12, if_neg s_13, if_neg s_17, if_neg s_20, if_neg s_21, if_neg s_22, if_neg s_25, if_pos s_26]) dX4_isStep_229
    by_cases s_27 : p1 = 14
    · refine lv_tableIn (tgt := 84) (off := 74) hx hb dX4_isStep_10 (by rw [s_27]; decide) (by rw [s_27]; decide) (by rw [s_27]; rfl) (by decide) ?_
      refine lv_iconst (v := 1) hx hb dX4_isStep_84 (by decide) ?_
      exact rd_z hx hb hr rfl hlocks (by simp only [f_X4_isStep, if_neg c_1, if_neg s_2, if_neg s_3, if_neg s_6, if_neg s_9, if_neg s_10, if_neg s_11, if_neg s_12, if_neg s_13, if_neg s_17, if_neg s_20, if_neg s_21, if_neg s_22, if_neg s_25, if_neg s_26, if_pos s_27]) dX4_isStep_85
    have t_28 : (p1 : Int32).toInt < 0 ∨ 14 < (p1 : Int32).toInt := by
      have z0 := ne_ti (k := 0) (n := 0) s_2 (by decide)
      have z1 := ne_ti (k := 1) (n := 1) s_3 (by decide)
      have z2 := ne_ti (k := 2) (n := 2) s_6 (by decide)
      have z3 := ne_ti (k := 3) (n := 3) s_9 (by decide)
      have z4 := ne_ti (k := 4) (n := 4) s_10 (by decide)
      have z5 := ne_ti (k := 5) (n := 5) s_11 (by decide)
      have z6 := ne_ti (k := 6) (n := 6) s_12 (by decide)
      have z7 := ne_ti (k := 7) (n := 7) s_13 (by decide)
      have z8 := ne_ti (k := 8) (n := 8) s_17 (by decide)
      have z9 := ne_ti (k := 9) (n := 9) s_20 (by decide)
      have z10 := ne_ti (k := 10) (n := 10) s_21 (by decide)
      have z11 := ne_ti (k := 11) (n := 11) s_22 (by decide)
      have z12 := ne_ti (k := 12) (n := 12) s_25 (by decide)
      have z13 := ne_ti (k := 13) (n := 13) s_26 (by decide)
      have z14 := ne_ti (k := 14) (n := 14) s_27 (by decide)
      omega
    refine lv_tableOut (tgt := 230) hx hb dX4_isStep_10 t_28 (by decide) ?_
    refine lv_iconst (v := 0) hx hb dX4_isStep_230 (by decide) ?_
    exact rd_z hx hb hr rfl hlocks (by simp only [f_X4_isStep, if_neg c_1, if_neg s_2, if_neg s_3, if_neg s_6, if_neg s_9, if_neg s_10, if_neg s_11, if_neg s_12, if_neg s_13, if_neg s_17, if_neg s_20, if_neg s_21, if_neg s_22, if_neg s_25, if_neg s_26, if_neg s_27]) dX4_isStep_231
  · refine lv_iconst (v := 0) hx hb dX4_isStep_7 (by decide) ?_
    exact rd_z hx hb hr rfl hlocks (by simp only [f_X4_isStep, if_pos c_1]) dX4_isStep_8
end
section
/-! what the tests of the arguments say -/
theorem iw_in {x a b : Int32} (h : ¬ f_X4_isWithin x a b = 0) : a.toInt ≤ x.toInt ∧ x.toInt ≤ b.toInt := by
  unfold f_X4_isWithin at h
  split at h
  · exact absurd rfl h
  · split at h
    · exact absurd rfl h
    · rename_i h1 h2
      rw [Int32.lt_iff_toInt_lt] at h1 h2
      omega
theorem in_place {x : Int32} (h : ¬ f_X4_isPlace x = 0) : vp_in x 6 := by
  have h1 := iw_in h
  rw [vp_in_iff]
  have e1 : (0 : Int32).toInt = 0 := by decide
  have e2 : (5 : Int32).toInt = 5 := by decide
  omega
theorem in_block {x : Int32} (h : ¬ f_X4_isBlock x = 0) : vp_in x 40 := by
  have h1 := iw_in h
  rw [vp_in_iff]
  have e1 : (0 : Int32).toInt = 0 := by decide
  have e2 : (39 : Int32).toInt = 39 := by decide
  omega
abbrev wd_sh (cA : ClassId) (q2 q2a q2b q2c : Nat) : (Int32 × (Nat → Int32) × (Nat → Int32) × (Nat → Int32)) → va_W := fun u => [(q2, .inr (2, [.ref q2a, .ref q2b, .ref q2c, .int u.1])), (q2a, .inl (cA, 6, .inl (u.2.1))), (q2b, .inl (cA, 60, .inl (u.2.2.1))), (q2c, .inl (cA, 60, .inl (u.2.2.2)))]
abbrev wd_pr (cA : ClassId) (q0 q0a q0b q0c q0d q0e : Nat) : (Int32 × (Nat → Int32) × (Nat → Int32) × (Nat → Int32) × (Nat → Int32) × (Nat → Int32)) → va_W := fun u => [(q0, .inr (0, [.ref q0a, .ref q0b, .ref q0c, .ref q0d, .ref q0e, .int u.1])), (q0a, .inl (cA, 40, .inl (u.2.1))), (q0b, .inl (cA, 480, .inl (u.2.2.1))), (q0c, .inl (cA, 480, .inl (u.2.2.2.1))), (q0d, .inl (cA, 480, .inl (u.2.2.2.2.1))), (q0e, .inl (cA, 480, .inl (u.2.2.2.2.2)))]
abbrev wd_ta (cA : ClassId) (q3 q3a : Nat) : (Int32 × Int32 × Int32 × Int32 × Int32 × Int32 × (Nat → Int32)) → va_W := fun u => [(q3, .inr (3, [.ref q3a, .int u.1, .int u.2.1, .int u.2.2.1, .int u.2.2.2.1, .int u.2.2.2.2.1, .int u.2.2.2.2.2.1])), (q3a, .inl (cA, 250, .inl (u.2.2.2.2.2.2)))]
abbrev wd_ru (cA : ClassId) (q1 q2 q2a q2b q2c q0 q0a q0b q0c q0d q0e q3 q3a : Nat) : (Int32 × Int32 × (Nat → Int32) × (Nat → Int32) × (Nat → Int32) × Int32 × (Nat → Int32) × (Nat → Int32) × (Nat → Int32) × (Nat → Int32) × (Nat → Int32) × Int32 × Int32 × Int32 × Int32 × Int32 × Int32 × (Nat → Int32)) → va_W := fun u => [(q1, .inr (1, [.ref q2, .ref q0, .ref q3, .int u.1])), (q2, .inr (2, [.ref q2a, .ref q2b, .ref q2c, .int u.2.1])), (q2a, .inl (cA, 6, .inl (u.2.2.1))), (q2b, .inl (cA, 60, .inl (u.2.2.2.1))), (q2c, .inl (cA, 60, .inl (u.2.2.2.2.1))), (q0, .inr (0, [.ref q0a, .ref q0b, .ref q0c, .ref q0d, .ref q0e, .int u.2.2.2.2.2.1])), (q0a, .inl (cA, 40, .inl (u.2.2.2.2.2.2.1))), (q0b, .inl (cA, 480, .inl (u.2.2.2.2.2.2.2.1))), (q0c, .inl (cA, 480, .inl (u.2.2.2.2.2.2.2.2.1))), (q0d, .inl (cA, 480, .inl (u.2.2.2.2.2.2.2.2.2.1))), (q0e, .inl (cA, 480, .inl (u.2.2.2.2.2.2.2.2.2.2.1))), (q3, .inr (3, [.ref q3a, .int u.2.2.2.2.2.2.2.2.2.2.2.1, .int u.2.2.2.2.2.2.2.2.2.2.2.2.1, .int u.2.2.2.2.2.2.2.2.2.2.2.2.2.1, .int u.2.2.2.2.2.2.2.2.2.2.2.2.2.2.1, .int u.2.2.2.2.2.2.2.2.2.2.2.2.2.2.2.1, .int u.2.2.2.2.2.2.2.2.2.2.2.2.2.2.2.2.1])), (q3a, .inl (cA, 250, .inl (u.2.2.2.2.2.2.2.2.2.2.2.2.2.2.2.2.2)))]
abbrev wd_hb (cA : ClassId) (q4 q2 q2a q2b q2c q0 q0a q0b q0c q0d q0e q3 q3a q1 : Nat) : (Int32 × Int32 × (Nat → Int32) × (Nat → Int32) × (Nat → Int32) × Int32 × (Nat → Int32) × (Nat → Int32) × (Nat → Int32) × (Nat → Int32) × (Nat → Int32) × Int32 × Int32 × Int32 × Int32 × Int32 × Int32 × (Nat → Int32) × Int32) → va_W := fun u => [(q4, .inr (4, [.ref q2, .ref q0, .ref q3, .ref q1, .int u.1])), (q2, .inr (2, [.ref q2a, .ref q2b, .ref q2c, .int u.2.1])), (q2a, .inl (cA, 6, .inl (u.2.2.1))), (q2b, .inl (cA, 60, .inl (u.2.2.2.1))), (q2c, .inl (cA, 60, .inl (u.2.2.2.2.1))), (q0, .inr (0, [.ref q0a, .ref q0b, .ref q0c, .ref q0d, .ref q0e, .int u.2.2.2.2.2.1])), (q0a, .inl (cA, 40, .inl (u.2.2.2.2.2.2.1))), (q0b, .inl (cA, 480, .inl (u.2.2.2.2.2.2.2.1))), (q0c, .inl (cA, 480, .inl (u.2.2.2.2.2.2.2.2.1))), (q0d, .inl (cA, 480, .inl (u.2.2.2.2.2.2.2.2.2.1))), (q0e, .inl (cA, 480, .inl (u.2.2.2.2.2.2.2.2.2.2.1))), (q3, .inr (3, [.ref q3a, .int u.2.2.2.2.2.2.2.2.2.2.2.1, .int u.2.2.2.2.2.2.2.2.2.2.2.2.1, .int u.2.2.2.2.2.2.2.2.2.2.2.2.2.1, .int u.2.2.2.2.2.2.2.2.2.2.2.2.2.2.1, .int u.2.2.2.2.2.2.2.2.2.2.2.2.2.2.2.1, .int u.2.2.2.2.2.2.2.2.2.2.2.2.2.2.2.2.1])), (q3a, .inl (cA, 250, .inl (u.2.2.2.2.2.2.2.2.2.2.2.2.2.2.2.2.2.1))), (q1, .inr (1, [.ref q2, .ref q0, .ref q3, .int u.2.2.2.2.2.2.2.2.2.2.2.2.2.2.2.2.2.2]))]
abbrev wd_mo (cA : ClassId) (q5 q5a q5b q5c q5d q5e q5f q5g q5h q5i : Nat) : (Int32 × Int32 × Int32 × Int32 × Int32 × Int32 × Int32 × Int32 × Int32 × Int32 × Int32 × Int32 × Int32 × (Nat → Int32) × (Nat → Int32) × (Nat → Int32) × (Nat → Int32) × (Nat → Int32) × (Nat → Int32) × (Nat → Int32) × (Nat → Int32) × (Nat → Int32)) → va_W := fun u => [(q5, .inr (5, [.int u.1, .ref q5a, .int u.2.1, .ref q5b, .ref q5c, .int u.2.2.1, .ref q5d, .ref q5e, .ref q5f, .ref q5g, .ref q5h, .int u.2.2.2.1, .int u.2.2.2.2.1, .int u.2.2.2.2.2.1, .ref q5i, .int u.2.2.2.2.2.2.1, .int u.2.2.2.2.2.2.2.1, .int u.2.2.2.2.2.2.2.2.1, .int u.2.2.2.2.2.2.2.2.2.1, .int u.2.2.2.2.2.2.2.2.2.2.1, .int u.2.2.2.2.2.2.2.2.2.2.2.1, .int u.2.2.2.2.2.2.2.2.2.2.2.2.1])), (q5a, .inl (cA, 6, .inl (u.2.2.2.2.2.2.2.2.2.2.2.2.2.1))), (q5b, .inl (cA, 60, .inl (u.2.2.2.2.2.2.2.2.2.2.2.2.2.2.1))), (q5c, .inl (cA, 60, .inl (u.2.2.2.2.2.2.2.2.2.2.2.2.2.2.2.1))), (q5d, .inl (cA, 40, .inl (u.2.2.2.2.2.2.2.2.2.2.2.2.2.2.2.2.1))), (q5e, .inl (cA, 480, .inl (u.2.2.2.2.2.2.2.2.2.2.2.2.2.2.2.2.2.1))), (q5f, .inl (cA, 480, .inl (u.2.2.2.2.2.2.2.2.2.2.2.2.2.2.2.2.2.2.1))), (q5g, .inl (cA, 480, .inl (u.2.2.2.2.2.2.2.2.2.2.2.2.2.2.2.2.2.2.2.1))), (q5h, .inl (cA, 480, .inl (u.2.2.2.2.2.2.2.2.2.2.2.2.2.2.2.2.2.2.2.2.1))), (q5i, .inl (cA, 250, .inl (u.2.2.2.2.2.2.2.2.2.2.2.2.2.2.2.2.2.2.2.2.2)))]
def f_X2_isThing (ma : Int32) (pl : Nat → Int32) (nu : Nat → Int32) (de : Nat → Int32) (p0 : Int32) : Int32 := (if p0 < 0 then 0 else (if ma ≤ p0 then 0 else 1))
set_option maxHeartbeats 4000000 in
set_option maxRecDepth 100000 in
theorem c_X2_isThing (l : Launch) (dC : Nat → ClassId) (dI : Nat → Nat → Nat) (cA : ClassId) (q2 q2a q2b q2c : Nat) (ma : Int32) (pl : Nat → Int32) (nu : Nat → Int32) (de : Nat → Int32) (p0 : Int32) : Met l yX2_isThing wsX2_isThing ({ frames := 0, cells := 0, slots := 0, locals := 0 }) (pcR (dC, dI) [(q2, .inr (2, [.ref q2a, .ref q2b, .ref q2c, .int ma])), (q2a, .inl (cA, 6, .inl pl)), (q2b, .inl (cA, 60, .inl nu)), (q2c, .inl (cA, 60, .inl de))] [(cA, .int)] [.ref q2, .int p0]) (QcRead (f_X2_isThing ma pl nu de p0)) 0 0 (fun _ => False) := by
  refine Met.ofW (cc := cX2_isThing) (maxL := 2) (ret := (some .boolean)) (by decide) rfl ?_
  intro p e s m args below meth c s₁ B hml hv
  obtain ⟨rfl, hN, hP, hK⟩ := hv
  have hx := B.exec
  have hb := B.bytes
  have hr := B.returns
  have hts := atoms_spec (ws := wsX2_isThing) B.pre
  have hown : s.vm.findClass RX2 = some m.cls := findClass_of_methodNamed B.named
  have hlocks := B.notSynchronized
  have hl := lv_entry ([.ref q2, .int p0]) (n := 2) (Nat.le_of_ble_eq_true rfl)
  rw [lg_entry_eq]
  generalize (lg_sl ([.ref q2, .int p0]) ++ List.replicate (2 - (lg_sl ([.ref q2, .int p0])).length) Slot.unset).toArray = ls at hl ⊢
  have hl : lv_has ls 2 [(0, .ref q2), (1, .int p0)] := hl
  refine lv_iload_n hx hb dX2_isThing_0 rfl (lv_at hl 1 rfl) ?_
  refine lv_if_lt (tgt := 16) hx hb dX2_isThing_1 (by decide) (fun c_1 => ?_) (fun c_1 => ?_)
  · refine lv_iconst (v := 0) hx hb dX2_isThing_16 (by decide) ?_
    exact rd_z hx hb hr rfl hlocks (by simp only [f_X2_isThing, if_pos c_1]) dX2_isThing_17
  · refine lv_iload_n hx hb dX2_isThing_4 rfl (lv_at hl 1 rfl) ?_
    refine lv_aload_n hx hb dX2_isThing_5 rfl (lv_at hl 0 rfl) ?_
    refine va_get (D := (dC, dI)) (ci := 2) (v := .int ma) (C := RX2) (T := TX2) (N := 4) hx hb hts (by decide +kernel) hown hK hP 0 rfl rfl 3 (by decide) (hts (.fieldLink RX2 27 RX2 "made" "I") (by decide +kernel)) (fun _ h9 => h9) rfl dX2_isThing_6 ?_
    refine lv_icmp_ge (tgt := 16) hx hb dX2_isThing_9 (by decide) (fun c_2 => ?_) (fun c_2 => ?_)
    · refine lv_iconst (v := 0) hx hb dX2_isThing_16 (by decide) ?_
      exact rd_z hx hb hr rfl hlocks (by simp only [f_X2_isThing, if_neg c_1, if_pos c_2]) dX2_isThing_17
    · refine lv_iconst (v := 1) hx hb dX2_isThing_12 (by decide) ?_
      refine lv_goto (tgt := 17) hx hb dX2_isThing_13 (by decide) ?_
      exact rd_z hx hb hr rfl hlocks (by simp only [f_X2_isThing, if_neg c_1, if_neg c_2]) dX2_isThing_17
theorem in_thing {ma x : Int32} {pl nu de : Nat → Int32} (hma : ma.toInt ≤ 60) (h : ¬ f_X2_isThing ma pl nu de x = 0) : vp_in x 60 := by
  unfold f_X2_isThing at h
  split at h
  · exact absurd rfl h
  · split at h
    · exact absurd rfl h
    · rename_i h1 h2
      rw [Int32.lt_iff_toInt_lt] at h1
      rw [Int32.le_iff_toInt_le] at h2
      rw [vp_in_iff]
      have e1 : (0 : Int32).toInt = 0 := by decide
      omega
def f_X2_thingIn (ma : Int32) (pl : Nat → Int32) (nu : Nat → Int32) (de : Nat → Int32) (p0 : Int32) : Int32 := (if (f_X4_isPlace p0) = 0 then (-1) else (pl p0.toNatClampNeg))
set_option maxHeartbeats 4000000 in
set_option maxRecDepth 100000 in
theorem c_X2_thingIn (l : Launch) (dC : Nat → ClassId) (dI : Nat → Nat → Nat) (cA : ClassId) (q2 q2a q2b q2c : Nat) (ma : Int32) (pl : Nat → Int32) (nu : Nat → Int32) (de : Nat → Int32) (p0 : Int32) : Met l yX2_thingIn wsX2_thingIn ({ frames := 2, cells := 0, slots := 0, locals := 42 }) (pcR (dC, dI) [(q2, .inr (2, [.ref q2a, .ref q2b, .ref q2c, .int ma])), (q2a, .inl (cA, 6, .inl pl)), (q2b, .inl (cA, 60, .inl nu)), (q2c, .inl (cA, 60, .inl de))] [(cA, .int)] [.ref q2, .int p0]) (QcRead (f_X2_thingIn ma pl nu de p0)) 0 0 (fun _ => False) := by
  refine Met.ofW (cc := cX2_thingIn) (maxL := 2) (ret := (some .int)) (by decide) rfl ?_
  intro p e s m args below meth c s₁ B hml hv
  obtain ⟨rfl, hN, hP, hK⟩ := hv
  have hx := B.exec
  have hb := B.bytes
  have hr := B.returns
  have hts := atoms_spec (ws := wsX2_thingIn) B.pre
  have hown : s.vm.findClass RX2 = some m.cls := findClass_of_methodNamed B.named
  have hlocks := B.notSynchronized
  have hl := lv_entry ([.ref q2, .int p0]) (n := 2) (Nat.le_of_ble_eq_true rfl)
  rw [lg_entry_eq]
  generalize (lg_sl ([.ref q2, .int p0]) ++ List.replicate (2 - (lg_sl ([.ref q2, .int p0])).length) Slot.unset).toArray = ls at hl ⊢
  have hl : lv_has ls 2 [(0, .ref q2), (1, .int p0)] := hl
  refine lv_iload_n hx hb dX2_thingIn_0 rfl (lv_at hl 1 rfl) ?_
  refine kx_read (va_runSN (As := [.int p0]) (rest := []) ⟨hx, hb, hml, hown, hts⟩ (c_X4_isPlace l p0) ⟨va_cnB 1 hts gX2_thingIn_X4_isPlace_n35 rfl rfl rfl (hN.at 5 rfl) (hts (.initialized RX4) (by decide +kernel)) (by decide +kernel) ⟨(Nat.le_of_ble_eq_true rfl), (Nat.le_of_ble_eq_true rfl)⟩, (hts (.static yX4_isPlace) (by decide +kernel)), trivial⟩ (pS hN) rfl rfl hl.1 rfl (lv_room (Nat.le_of_ble_eq_true rfl)) dX2_thingIn_1 ⟨Nat.zero_le _, Nat.zero_le _⟩) ?_
  refine lv_if_eq (tgt := 16) hx hb dX2_thingIn_4 (by decide) (fun c_1 => ?_) (fun c_1 => ?_)
  · refine lv_iconst (v := (-1)) hx hb dX2_thingIn_16 (by decide) ?_
    exact rd_i hx hb hr hlocks (by simp only [f_X2_thingIn, if_pos c_1]) dX2_thingIn_17
  · refine lv_aload_n hx hb dX2_thingIn_7 rfl (lv_at hl 0 rfl) ?_
    refine va_get (D := (dC, dI)) (ci := 2) (v := .ref q2a) (C := RX2) (T := TX2) (N := 4) hx hb hts (by decide +kernel) hown hK hP 0 rfl rfl 0 (by decide) (hts (.fieldLink RX2 9 RX2 "places" "[I") (by decide +kernel)) (fun _ h9 => h9) rfl dX2_thingIn_8 ?_
    refine lv_iload_n hx hb dX2_thingIn_11 rfl (lv_at hl 1 rfl) ?_
    refine va_iald hx hb hK hP 1 0 rfl rfl (in_place c_1) dX2_thingIn_12 ?_
    refine lv_goto (tgt := 17) hx hb dX2_thingIn_13 (by decide) ?_
    exact rd_i hx hb hr hlocks (by simp only [f_X2_thingIn, if_neg c_1]) dX2_thingIn_17
def f_X2_numberOf (ma : Int32) (pl : Nat → Int32) (nu : Nat → Int32) (de : Nat → Int32) (p0 : Int32) : Int32 := (if (f_X2_isThing ma pl nu de p0) = 0 then 0 else (nu p0.toNatClampNeg))
set_option maxHeartbeats 4000000 in
set_option maxRecDepth 100000 in
theorem c_X2_numberOf (l : Launch) (dC : Nat → ClassId) (dI : Nat → Nat → Nat) (cA : ClassId) (q2 q2a q2b q2c : Nat) (ma : Int32) (pl : Nat → Int32) (nu : Nat → Int32) (de : Nat → Int32) (p0 : Int32) (hma : ma.toInt ≤ 60) : Met l yX2_numberOf wsX2_numberOf ({ frames := 1, cells := 0, slots := 0, locals := 21 }) (pcR (dC, dI) [(q2, .inr (2, [.ref q2a, .ref q2b, .ref q2c, .int ma])), (q2a, .inl (cA, 6, .inl pl)), (q2b, .inl (cA, 60, .inl nu)), (q2c, .inl (cA, 60, .inl de))] [(cA, .int)] [.ref q2, .int p0]) (QcRead (f_X2_numberOf ma pl nu de p0)) 0 0 (fun _ => False) := by
  refine Met.ofW (cc := cX2_numberOf) (maxL := 2) (ret := (some .int)) (by decide) rfl ?_
  intro p e s m args below meth c s₁ B hml hv
  obtain ⟨rfl, hN, hP, hK⟩ := hv
  have hx := B.exec
  have hb := B.bytes
  have hr := B.returns
  have hts := atoms_spec (ws := wsX2_numberOf) B.pre
  have hown : s.vm.findClass RX2 = some m.cls := findClass_of_methodNamed B.named
  have hlocks := B.notSynchronized
  have hl := lv_entry ([.ref q2, .int p0]) (n := 2) (Nat.le_of_ble_eq_true rfl)
  rw [lg_entry_eq]
  generalize (lg_sl ([.ref q2, .int p0]) ++ List.replicate (2 - (lg_sl ([.ref q2, .int p0])).length) Slot.unset).toArray = ls at hl ⊢
  have hl : lv_has ls 2 [(0, .ref q2), (1, .int p0)] := hl
  refine lv_aload_n hx hb dX2_numberOf_0 rfl (lv_at hl 0 rfl) ?_
  refine lv_iload_n hx hb dX2_numberOf_1 rfl (lv_at hl 1 rfl) ?_
  have hPc := hP.sub (ws' := [(q2, .inr (2, [.ref q2a, .ref q2b, .ref q2c, .int ma])), (q2a, .inl (cA, 6, .inl pl)), (q2b, .inl (cA, 60, .inl nu)), (q2c, .inl (cA, 60, .inl de))]) [0, 1, 2, 3] rfl
  refine kx_read (va_runV (As := [.int p0]) (rest := []) ⟨hx, hb, hml, hown, hts⟩ (c_X2_isThing l dC dI cA q2 q2a q2b q2c ma pl nu de p0) (cwV 1 hts gX2_numberOf_X2_isThing rfl rfl rfl (by decide +kernel) ⟨(Nat.le_of_ble_eq_true rfl), (Nat.le_of_ble_eq_true rfl)⟩) (pR hN hPc hK (ci := 2) (q0 := 0) rfl rfl rfl) rfl rfl hl.1 rfl (lv_room (Nat.le_of_ble_eq_true rfl)) dX2_numberOf_2 ⟨Nat.zero_le _, Nat.zero_le _⟩) ?_
  refine lv_if_eq (tgt := 17) hx hb dX2_numberOf_5 (by decide) (fun c_1 => ?_) (fun c_1 => ?_)
  · refine lv_iconst (v := 0) hx hb dX2_numberOf_17 (by decide) ?_
    exact rd_i hx hb hr hlocks (by simp only [f_X2_numberOf, if_pos c_1]) dX2_numberOf_18
  · refine lv_aload_n hx hb dX2_numberOf_8 rfl (lv_at hl 0 rfl) ?_
    refine va_get (D := (dC, dI)) (ci := 2) (v := .ref q2b) (C := RX2) (T := TX2) (N := 4) hx hb hts (by decide +kernel) hown hK hP 0 rfl rfl 1 (by decide) (hts (.fieldLink RX2 21 RX2 "numbers" "[I") (by decide +kernel)) (fun _ h9 => h9) rfl dX2_numberOf_9 ?_
    refine lv_iload_n hx hb dX2_numberOf_12 rfl (lv_at hl 1 rfl) ?_
    refine va_iald hx hb hK hP 2 0 rfl rfl (in_thing hma c_1) dX2_numberOf_13 ?_
    refine lv_goto (tgt := 18) hx hb dX2_numberOf_14 (by decide) ?_
    exact rd_i hx hb hr hlocks (by simp only [f_X2_numberOf, if_neg c_1]) dX2_numberOf_18
def f_X2_isHeld (ma : Int32) (pl : Nat → Int32) (nu : Nat → Int32) (de : Nat → Int32) (p0 : Int32) : Int32 := (if (f_X2_isThing ma pl nu de p0) = 0 then 0 else (if (de p0.toNatClampNeg) ≤ 0 then 0 else 1))
set_option maxHeartbeats 4000000 in
set_option maxRecDepth 100000 in
theorem c_X2_isHeld (l : Launch) (dC : Nat → ClassId) (dI : Nat → Nat → Nat) (cA : ClassId) (q2 q2a q2b q2c : Nat) (ma : Int32) (pl : Nat → Int32) (nu : Nat → Int32) (de : Nat → Int32) (p0 : Int32) (hma : ma.toInt ≤ 60) : Met l yX2_isHeld wsX2_isHeld ({ frames := 1, cells := 0, slots := 0, locals := 21 }) (pcR (dC, dI) [(q2, .inr (2, [.ref q2a, .ref q2b, .ref q2c, .int ma])), (q2a, .inl (cA, 6, .inl pl)), (q2b, .inl (cA, 60, .inl nu)), (q2c, .inl (cA, 60, .inl de))] [(cA, .int)] [.ref q2, .int p0]) (QcRead (f_X2_isHeld ma pl nu de p0)) 0 0 (fun _ => False) := by
  refine Met.ofW (cc := cX2_isHeld) (maxL := 2) (ret := (some .boolean)) (by decide) rfl ?_
  intro p e s m args below meth c s₁ B hml hv
  obtain ⟨rfl, hN, hP, hK⟩ := hv
  have hx := B.exec
  have hb := B.bytes
  have hr := B.returns
  have hts := atoms_spec (ws := wsX2_isHeld) B.pre
  have hown : s.vm.findClass RX2 = some m.cls := findClass_of_methodNamed B.named
  have hlocks := B.notSynchronized
  have hl := lv_entry ([.ref q2, .int p0]) (n := 2) (Nat.le_of_ble_eq_true rfl)
  rw [lg_entry_eq]
  generalize (lg_sl ([.ref q2, .int p0]) ++ List.replicate (2 - (lg_sl ([.ref q2, .int p0])).length) Slot.unset).toArray = ls at hl ⊢
  have hl : lv_has ls 2 [(0, .ref q2), (1, .int p0)] := hl
  refine lv_aload_n hx hb dX2_isHeld_0 rfl (lv_at hl 0 rfl) ?_
  refine lv_iload_n hx hb dX2_isHeld_1 rfl (lv_at hl 1 rfl) ?_
  have hPc := hP.sub (ws' := [(q2, .inr (2, [.ref q2a, .ref q2b, .ref q2c, .int ma])), (q2a, .inl (cA, 6, .inl pl)), (q2b, .inl (cA, 60, .inl nu)), (q2c, .inl (cA, 60, .inl de))]) [0, 1, 2, 3] rfl
  refine kx_read (va_runV (As := [.int p0]) (rest := []) ⟨hx, hb, hml, hown, hts⟩ (c_X2_isThing l dC dI cA q2 q2a q2b q2c ma pl nu de p0) (cwV 1 hts gX2_isHeld_X2_isThing rfl rfl rfl (by decide +kernel) ⟨(Nat.le_of_ble_eq_true rfl), (Nat.le_of_ble_eq_true rfl)⟩) (pR hN hPc hK (ci := 2) (q0 := 0) rfl rfl rfl) rfl rfl hl.1 rfl (lv_room (Nat.le_of_ble_eq_true rfl)) dX2_isHeld_2 ⟨Nat.zero_le _, Nat.zero_le _⟩) ?_
  refine lv_if_eq (tgt := 21) hx hb dX2_isHeld_5 (by decide) (fun c_1 => ?_) (fun c_1 => ?_)
  · refine lv_iconst (v := 0) hx hb dX2_isHeld_21 (by decide) ?_
    exact rd_z hx hb hr rfl hlocks (by simp only [f_X2_isHeld, if_pos c_1]) dX2_isHeld_22
  · refine lv_aload_n hx hb dX2_isHeld_8 rfl (lv_at hl 0 rfl) ?_
    refine va_get (D := (dC, dI)) (ci := 2) (v := .ref q2c) (C := RX2) (T := TX2) (N := 4) hx hb hts (by decide +kernel) hown hK hP 0 rfl rfl 2 (by decide) (hts (.fieldLink RX2 24 RX2 "depths" "[I") (by decide +kernel)) (fun _ h9 => h9) rfl dX2_isHeld_9 ?_
    refine lv_iload_n hx hb dX2_isHeld_12 rfl (lv_at hl 1 rfl) ?_
    refine va_iald hx hb hK hP 3 0 rfl rfl (in_thing hma c_1) dX2_isHeld_13 ?_
    refine lv_if_le (tgt := 21) hx hb dX2_isHeld_14 (by decide) (fun c_2 => ?_) (fun c_2 => ?_)
    · refine lv_iconst (v := 0) hx hb dX2_isHeld_21 (by decide) ?_
      exact rd_z hx hb hr rfl hlocks (by simp only [f_X2_isHeld, if_neg c_1, if_pos c_2]) dX2_isHeld_22
    · refine lv_iconst (v := 1) hx hb dX2_isHeld_17 (by decide) ?_
      refine lv_goto (tgt := 22) hx hb dX2_isHeld_18 (by decide) ?_
      exact rd_z hx hb hr rfl hlocks (by simp only [f_X2_isHeld, if_neg c_1, if_neg c_2]) dX2_isHeld_22
def f_X2_put (ma : Int32) (pl : Nat → Int32) (nu : Nat → Int32) (de : Nat → Int32) (p0 : Int32) (p1 : Int32) : Int32 × (Nat → Int32) × (Nat → Int32) × (Nat → Int32) := (if (f_X4_isPlace p0) = 0 then (ma, pl, nu, de) else (ma, (upd pl p0.toNatClampNeg p1), nu, de))
set_option maxHeartbeats 4000000 in
set_option maxRecDepth 100000 in
theorem c_X2_put (l : Launch) (dC : Nat → ClassId) (dI : Nat → Nat → Nat) (cA : ClassId) (q2 q2a q2b q2c : Nat) (sz : Nat) (ma : Int32) (pl : Nat → Int32) (nu : Nat → Int32) (de : Nat → Int32) (p0 : Int32) (p1 : Int32) : Met l yX2_put wsX2_put ({ frames := 2, cells := 0, slots := 0, locals := 42 }) (pcW (dC, dI) [(q2, .inr (2, [.ref q2a, .ref q2b, .ref q2c, .int ma])), (q2a, .inl (cA, 6, .inl pl)), (q2b, .inl (cA, 60, .inl nu)), (q2c, .inl (cA, 60, .inl de))] [(cA, .int)] sz [.ref q2, .int p0, .int p1]) (QWv (dC, dI) (f_X2_put ma pl nu de p0 p1) (wd_sh cA q2 q2a q2b q2c) (va_A [(q2, .inr (2, [.ref q2a, .ref q2b, .ref q2c, .int ma])), (q2a, .inl (cA, 6, .inl pl)), (q2b, .inl (cA, 60, .inl nu)), (q2c, .inl (cA, 60, .inl de))] sz)) 0 0 (va_A [(q2, .inr (2, [.ref q2a, .ref q2b, .ref q2c, .int ma])), (q2a, .inl (cA, 6, .inl pl)), (q2b, .inl (cA, 60, .inl nu)), (q2c, .inl (cA, 60, .inl de))] sz) := by
  refine Met.ofW (cc := cX2_put) (maxL := 3) (ret := none) (by decide) rfl ?_
  intro p e s m args below meth c s₁ B hml hv
  obtain ⟨rfl, hsz, hN, hP, hK, hD0⟩ := hv
  have hx := B.exec
  have hb := B.bytes
  have hr := B.returns
  have hts := atoms_spec (ws := wsX2_put) B.pre
  have hown : s.vm.findClass RX2 = some m.cls := findClass_of_methodNamed B.named
  have hlocks := B.notSynchronized
  subst hsz
  have hD := hD0.self (sz := s.heap.size)
  generalize hAe : va_A [(q2, .inr (2, [.ref q2a, .ref q2b, .ref q2c, .int ma])), (q2a, .inl (cA, 6, .inl pl)), (q2b, .inl (cA, 60, .inl nu)), (q2c, .inl (cA, 60, .inl de))] s.heap.size = A at hD ⊢
  have hA : ∀ q : Nat, s.heap.size ≤ q → A q := fun q h => by rw [← hAe]; exact Or.inr h
  have hS : va_S A s.heap s.heap [] := va_S.rf
  have hl := lv_entry ([.ref q2, .int p0, .int p1]) (n := 3) (Nat.le_of_ble_eq_true rfl)
  rw [lg_entry_eq]
  generalize (lg_sl ([.ref q2, .int p0, .int p1]) ++ List.replicate (3 - (lg_sl ([.ref q2, .int p0, .int p1])).length) Slot.unset).toArray = ls at hl ⊢
  have hl : lv_has ls 3 [(0, .ref q2), (1, .int p0), (2, .int p1)] := hl
  refine lv_iload_n hx hb dX2_put_0 rfl (lv_at hl 1 rfl) ?_
  refine kx_read (va_runSN (As := [.int p0]) (rest := []) ⟨hx, hb, hml, hown, hts⟩ (c_X4_isPlace l p0) ⟨va_cnB 1 hts gX2_put_X4_isPlace_n35 rfl rfl rfl (hN.at 5 rfl) (hts (.initialized RX4) (by decide +kernel)) (by decide +kernel) ⟨(Nat.le_of_ble_eq_true rfl), (Nat.le_of_ble_eq_true rfl)⟩, (hts (.static yX4_isPlace) (by decide +kernel)), trivial⟩ (pS hN) rfl rfl hl.1 rfl (lv_room (Nat.le_of_ble_eq_true rfl)) dX2_put_1 ⟨Nat.zero_le _, Nat.zero_le _⟩) ?_
  refine lv_if_eq (tgt := 14) hx hb dX2_put_4 (by decide) (fun c_1 => ?_) (fun c_1 => ?_)
  · exact rt_v hx hb hr hlocks (ma, pl, nu, de) (by simp only [f_X2_put, if_pos c_1]) hP hD hS dX2_put_14
  · refine lv_aload_n hx hb dX2_put_7 rfl (lv_at hl 0 rfl) ?_
    refine va_get (D := (dC, dI)) (ci := 2) (v := .ref q2a) (C := RX2) (T := TX2) (N := 4) hx hb hts (by decide +kernel) hown hK hP 0 rfl rfl 0 (by decide) (hts (.fieldLink RX2 9 RX2 "places" "[I") (by decide +kernel)) (fun _ h9 => h9) rfl dX2_put_8 ?_
    refine lv_iload_n hx hb dX2_put_11 rfl (lv_at hl 1 rfl) ?_
    refine lv_iload_n hx hb dX2_put_12 rfl (lv_at hl 2 rfl) ?_
    refine va_iast hx hb hK hP hD hS 1 0 rfl rfl (in_place c_1) dX2_put_13 (fun H locs hP hD hS => ?_)
    have hP : va_P (dC, dI) vwCl [(q2, .inr (2, [.ref q2a, .ref q2b, .ref q2c, .int ma])), (q2a, .inl (cA, 6, .inl (upd pl p0.toNatClampNeg p1))), (q2b, .inl (cA, 60, .inl nu)), (q2c, .inl (cA, 60, .inl de))] H := hP
    have hD : va_D A [(q2, .inr (2, [.ref q2a, .ref q2b, .ref q2c, .int ma])), (q2a, .inl (cA, 6, .inl (upd pl p0.toNatClampNeg p1))), (q2b, .inl (cA, 60, .inl nu)), (q2c, .inl (cA, 60, .inl de))] := hD
    exact rt_v hx hb hr hlocks (ma, (upd pl p0.toNatClampNeg p1), nu, de) (by simp only [f_X2_put, if_neg c_1]) hP hD hS dX2_put_14
def f_X2_makeThing (ma : Int32) (pl : Nat → Int32) (nu : Nat → Int32) (de : Nat → Int32) (p0 : Int32) : Int32 × Int32 × (Nat → Int32) × (Nat → Int32) × (Nat → Int32) := (if ma < 60 then (match f_X2_put (ma + 1) pl nu de p0 ma with | (ma_2, pl_2, nu_2, de_2) => (ma, ma_2, pl_2, nu_2, de_2)) else ((-3), ma, pl, nu, de))
set_option maxHeartbeats 4000000 in
set_option maxRecDepth 100000 in
theorem c_X2_makeThing (l : Launch) (dC : Nat → ClassId) (dI : Nat → Nat → Nat) (cA : ClassId) (q2 q2a q2b q2c : Nat) (sz : Nat) (ma : Int32) (pl : Nat → Int32) (nu : Nat → Int32) (de : Nat → Int32) (p0 : Int32) : Met l yX2_makeThing wsX2_makeThing ({ frames := 3, cells := 0, slots := 0, locals := 64 }) (pcW (dC, dI) [(q2, .inr (2, [.ref q2a, .ref q2b, .ref q2c, .int ma])), (q2a, .inl (cA, 6, .inl pl)), (q2b, .inl (cA, 60, .inl nu)), (q2c, .inl (cA, 60, .inl de))] [(cA, .int)] sz [.ref q2, .int p0]) (QWi (dC, dI) (f_X2_makeThing ma pl nu de p0) (wd_sh cA q2 q2a q2b q2c) (va_A [(q2, .inr (2, [.ref q2a, .ref q2b, .ref q2c, .int ma])), (q2a, .inl (cA, 6, .inl pl)), (q2b, .inl (cA, 60, .inl nu)), (q2c, .inl (cA, 60, .inl de))] sz)) 0 0 (va_A [(q2, .inr (2, [.ref q2a, .ref q2b, .ref q2c, .int ma])), (q2a, .inl (cA, 6, .inl pl)), (q2b, .inl (cA, 60, .inl nu)), (q2c, .inl (cA, 60, .inl de))] sz) := by
  refine Met.ofW (cc := cX2_makeThing) (maxL := 3) (ret := (some .int)) (by decide) rfl ?_
  intro p e s m args below meth c s₁ B hml hv
  obtain ⟨rfl, hsz, hN, hP, hK, hD0⟩ := hv
  have hx := B.exec
  have hb := B.bytes
  have hr := B.returns
  have hts := atoms_spec (ws := wsX2_makeThing) B.pre
  have hown : s.vm.findClass RX2 = some m.cls := findClass_of_methodNamed B.named
  have hlocks := B.notSynchronized
  subst hsz
  have hD := hD0.self (sz := s.heap.size)
  generalize hAe : va_A [(q2, .inr (2, [.ref q2a, .ref q2b, .ref q2c, .int ma])), (q2a, .inl (cA, 6, .inl pl)), (q2b, .inl (cA, 60, .inl nu)), (q2c, .inl (cA, 60, .inl de))] s.heap.size = A at hD ⊢
  have hA : ∀ q : Nat, s.heap.size ≤ q → A q := fun q h => by rw [← hAe]; exact Or.inr h
  have hS : va_S A s.heap s.heap [] := va_S.rf
  have hl := lv_entry ([.ref q2, .int p0]) (n := 3) (Nat.le_of_ble_eq_true rfl)
  rw [lg_entry_eq]
  generalize (lg_sl ([.ref q2, .int p0]) ++ List.replicate (3 - (lg_sl ([.ref q2, .int p0])).length) Slot.unset).toArray = ls at hl ⊢
  have hl : lv_has ls 3 [(0, .ref q2), (1, .int p0)] := hl
  refine lv_aload_n hx hb dX2_makeThing_0 rfl (lv_at hl 0 rfl) ?_
  refine va_get (D := (dC, dI)) (ci := 2) (v := .int ma) (C := RX2) (T := TX2) (N := 4) hx hb hts (by decide +kernel) hown hK hP 0 rfl rfl 3 (by decide) (hts (.fieldLink RX2 27 RX2 "made" "I") (by decide +kernel)) (fun _ h9 => h9) rfl dX2_makeThing_1 ?_
  refine lv_bipush (v := 60) hx hb dX2_makeThing_4 (by decide) ?_
  refine lv_icmp_lt (tgt := 12) hx hb dX2_makeThing_6 (by decide) (fun c_1 => ?_) (fun c_1 => ?_)
  · refine lv_aload_n hx hb dX2_makeThing_12 rfl (lv_at hl 0 rfl) ?_
    refine va_get (D := (dC, dI)) (ci := 2) (v := .int ma) (C := RX2) (T := TX2) (N := 4) hx hb hts (by decide +kernel) hown hK hP 0 rfl rfl 3 (by decide) (hts (.fieldLink RX2 27 RX2 "made" "I") (by decide +kernel)) (fun _ h9 => h9) rfl dX2_makeThing_13 ?_
    refine lv_istore_n (lv' := [(2, .int ma), (0, .ref q2), (1, .int p0)]) hx hb dX2_makeThing_16 rfl hl (by decide) rfl (fun ls hl => ?_)
    refine lv_aload_n hx hb dX2_makeThing_17 rfl (lv_at hl 1 rfl) ?_
    refine lv_dup hx hb dX2_makeThing_18 rfl ?_
    refine va_get (D := (dC, dI)) (ci := 2) (v := .int ma) (C := RX2) (T := TX2) (N := 4) hx hb hts (by decide +kernel) hown hK hP 0 rfl rfl 3 (by decide) (hts (.fieldLink RX2 27 RX2 "made" "I") (by decide +kernel)) (fun _ h9 => h9) rfl dX2_makeThing_19 ?_
    refine lv_iconst (v := 1) hx hb dX2_makeThing_22 (by decide) ?_
    refine lv_iadd hx hb dX2_makeThing_23 ?_
    refine va_put (D := (dC, dI)) (ci := 2) (v := .int (ma + 1)) (ty := .int) (C := RX2) (T := TX2) (N := 4) hx hb hts (by decide +kernel) tyX2 tyX2_ok nmX2 hown hK hP hD hS 0 rfl rfl 3 (by decide) (hts (.fieldLink RX2 27 RX2 "made" "I") (by decide +kernel)) (fun _ h9 => h9) rfl (by decide +kernel) rfl rfl (Nat.le_of_ble_eq_true rfl) dX2_makeThing_24 (fun H locs hP hD hS => ?_)
    have hP : va_P (dC, dI) vwCl [(q2, .inr (2, [.ref q2a, .ref q2b, .ref q2c, .int (ma + 1)])), (q2a, .inl (cA, 6, .inl pl)), (q2b, .inl (cA, 60, .inl nu)), (q2c, .inl (cA, 60, .inl de))] H := hP
    have hD : va_D A [(q2, .inr (2, [.ref q2a, .ref q2b, .ref q2c, .int (ma + 1)])), (q2a, .inl (cA, 6, .inl pl)), (q2b, .inl (cA, 60, .inl nu)), (q2c, .inl (cA, 60, .inl de))] := hD
    refine lv_aload_n hx hb dX2_makeThing_27 rfl (lv_at hl 1 rfl) ?_
    refine lv_iload_n hx hb dX2_makeThing_28 rfl (lv_at hl 2 rfl) ?_
    refine lv_iload_n hx hb dX2_makeThing_29 rfl (lv_at hl 0 rfl) ?_
    refine kx_wv (wr := []) hP hD hS hA [0, 1, 2, 3] [] rfl rfl (by decide) (by decide) (va_runV (As := [.int p0, .int ma]) (rest := []) ⟨hx, hb, hml, hown, hts⟩ (c_X2_put l dC dI cA q2 q2a q2b q2c H.size (ma + 1) pl nu de p0 ma) (cwV 2 hts gX2_makeThing_X2_put rfl rfl rfl (by decide +kernel) ⟨(Nat.le_of_ble_eq_true rfl), (Nat.le_of_ble_eq_true rfl)⟩) (pW hN (hP.sub (ws' := [(q2, .inr (2, [.ref q2a, .ref q2b, .ref q2c, .int (ma + 1)])), (q2a, .inl (cA, 6, .inl pl)), (q2b, .inl (cA, 60, .inl nu)), (q2c, .inl (cA, 60, .inl de))]) [0, 1, 2, 3] rfl) hK (hD.sub (ws' := [(q2, .inr (2, [.ref q2a, .ref q2b, .ref q2c, .int (ma + 1)])), (q2a, .inl (cA, 6, .inl pl)), (q2b, .inl (cA, 60, .inl nu)), (q2c, .inl (cA, 60, .inl de))]) [0, 1, 2, 3] (by decide) rfl) (ci := 2) (q0 := 0) rfl rfl rfl) rfl rfl hl.1 rfl (lv_room (Nat.le_of_ble_eq_true rfl)) dX2_makeThing_30 ⟨Nat.zero_le _, Nat.zero_le _⟩) (fun u_2 H locs hw_2 hP hD hS => ?_)
    obtain ⟨ma_2, pl_2, nu_2, de_2⟩ := u_2
    have hP : va_P (dC, dI) vwCl [(q2, .inr (2, [.ref q2a, .ref q2b, .ref q2c, .int ma_2])), (q2a, .inl (cA, 6, .inl pl_2)), (q2b, .inl (cA, 60, .inl nu_2)), (q2c, .inl (cA, 60, .inl de_2))] H := hP
    have hD : va_D A [(q2, .inr (2, [.ref q2a, .ref q2b, .ref q2c, .int ma_2])), (q2a, .inl (cA, 6, .inl pl_2)), (q2b, .inl (cA, 60, .inl nu_2)), (q2c, .inl (cA, 60, .inl de_2))] := hD
    refine lv_iload_n hx hb dX2_makeThing_33 rfl (lv_at hl 0 rfl) ?_
    exact rt_i hx hb hr hlocks (ma_2, pl_2, nu_2, de_2) (by simp only [f_X2_makeThing, if_pos c_1, ← hw_2]) hP hD hS dX2_makeThing_34
  · refine lv_bipush (v := (-3)) hx hb dX2_makeThing_9 (by decide) ?_
    exact rt_i hx hb hr hlocks (ma, pl, nu, de) (by simp only [f_X2_makeThing, if_neg c_1]) hP hD hS dX2_makeThing_11
def f_X2_raiseNumber (ma : Int32) (pl : Nat → Int32) (nu : Nat → Int32) (de : Nat → Int32) (p0 : Int32) (p1 : Int32) : Int32 × (Nat → Int32) × (Nat → Int32) × (Nat → Int32) := (if (f_X2_isThing ma pl nu de p0) = 0 then (ma, pl, nu, de) else (ma, pl, (upd nu p0.toNatClampNeg ((nu p0.toNatClampNeg) + p1)), de))
set_option maxHeartbeats 4000000 in
set_option maxRecDepth 100000 in
theorem c_X2_raiseNumber (l : Launch) (dC : Nat → ClassId) (dI : Nat → Nat → Nat) (cA : ClassId) (q2 q2a q2b q2c : Nat) (sz : Nat) (ma : Int32) (pl : Nat → Int32) (nu : Nat → Int32) (de : Nat → Int32) (p0 : Int32) (p1 : Int32) (hma : ma.toInt ≤ 60) : Met l yX2_raiseNumber wsX2_raiseNumber ({ frames := 1, cells := 0, slots := 0, locals := 21 }) (pcW (dC, dI) [(q2, .inr (2, [.ref q2a, .ref q2b, .ref q2c, .int ma])), (q2a, .inl (cA, 6, .inl pl)), (q2b, .inl (cA, 60, .inl nu)), (q2c, .inl (cA, 60, .inl de))] [(cA, .int)] sz [.ref q2, .int p0, .int p1]) (QWv (dC, dI) (f_X2_raiseNumber ma pl nu de p0 p1) (wd_sh cA q2 q2a q2b q2c) (va_A [(q2, .inr (2, [.ref q2a, .ref q2b, .ref q2c, .int ma])), (q2a, .inl (cA, 6, .inl pl)), (q2b, .inl (cA, 60, .inl nu)), (q2c, .inl (cA, 60, .inl de))] sz)) 0 0 (va_A [(q2, .inr (2, [.ref q2a, .ref q2b, .ref q2c, .int ma])), (q2a, .inl (cA, 6, .inl pl)), (q2b, .inl (cA, 60, .inl nu)), (q2c, .inl (cA, 60, .inl de))] sz) := by
  refine Met.ofW (cc := cX2_raiseNumber) (maxL := 3) (ret := none) (by decide) rfl ?_
  intro p e s m args below meth c s₁ B hml hv
  obtain ⟨rfl, hsz, hN, hP, hK, hD0⟩ := hv
  have hx := B.exec
  have hb := B.bytes
  have hr := B.returns
  have hts := atoms_spec (ws := wsX2_raiseNumber) B.pre
  have hown : s.vm.findClass RX2 = some m.cls := findClass_of_methodNamed B.named
  have hlocks := B.notSynchronized
  subst hsz
  have hD := hD0.self (sz := s.heap.size)
  generalize hAe : va_A [(q2, .inr (2, [.ref q2a, .ref q2b, .ref q2c, .int ma])), (q2a, .inl (cA, 6, .inl pl)), (q2b, .inl (cA, 60, .inl nu)), (q2c, .inl (cA, 60, .inl de))] s.heap.size = A at hD ⊢
  have hA : ∀ q : Nat, s.heap.size ≤ q → A q := fun q h => by rw [← hAe]; exact Or.inr h
  have hS : va_S A s.heap s.heap [] := va_S.rf
  have hl := lv_entry ([.ref q2, .int p0, .int p1]) (n := 3) (Nat.le_of_ble_eq_true rfl)
  rw [lg_entry_eq]
  generalize (lg_sl ([.ref q2, .int p0, .int p1]) ++ List.replicate (3 - (lg_sl ([.ref q2, .int p0, .int p1])).length) Slot.unset).toArray = ls at hl ⊢
  have hl : lv_has ls 3 [(0, .ref q2), (1, .int p0), (2, .int p1)] := hl
  refine lv_aload_n hx hb dX2_raiseNumber_0 rfl (lv_at hl 0 rfl) ?_
  refine lv_iload_n hx hb dX2_raiseNumber_1 rfl (lv_at hl 1 rfl) ?_
  have hPc := hP.sub (ws' := [(q2, .inr (2, [.ref q2a, .ref q2b, .ref q2c, .int ma])), (q2a, .inl (cA, 6, .inl pl)), (q2b, .inl (cA, 60, .inl nu)), (q2c, .inl (cA, 60, .inl de))]) [0, 1, 2, 3] rfl
  refine kx_read (va_runV (As := [.int p0]) (rest := []) ⟨hx, hb, hml, hown, hts⟩ (c_X2_isThing l dC dI cA q2 q2a q2b q2c ma pl nu de p0) (cwV 1 hts gX2_raiseNumber_X2_isThing rfl rfl rfl (by decide +kernel) ⟨(Nat.le_of_ble_eq_true rfl), (Nat.le_of_ble_eq_true rfl)⟩) (pR hN hPc hK (ci := 2) (q0 := 0) rfl rfl rfl) rfl rfl hl.1 rfl (lv_room (Nat.le_of_ble_eq_true rfl)) dX2_raiseNumber_2 ⟨Nat.zero_le _, Nat.zero_le _⟩) ?_
  refine lv_if_eq (tgt := 18) hx hb dX2_raiseNumber_5 (by decide) (fun c_1 => ?_) (fun c_1 => ?_)
  · exact rt_v hx hb hr hlocks (ma, pl, nu, de) (by simp only [f_X2_raiseNumber, if_pos c_1]) hP hD hS dX2_raiseNumber_18
  · refine lv_aload_n hx hb dX2_raiseNumber_8 rfl (lv_at hl 0 rfl) ?_
    refine va_get (D := (dC, dI)) (ci := 2) (v := .ref q2b) (C := RX2) (T := TX2) (N := 4) hx hb hts (by decide +kernel) hown hK hP 0 rfl rfl 1 (by decide) (hts (.fieldLink RX2 21 RX2 "numbers" "[I") (by decide +kernel)) (fun _ h9 => h9) rfl dX2_raiseNumber_9 ?_
    refine lv_iload_n hx hb dX2_raiseNumber_12 rfl (lv_at hl 1 rfl) ?_
    refine lv_dup2_11 hx hb dX2_raiseNumber_13 rfl rfl ?_
    refine va_iald hx hb hK hP 2 0 rfl rfl (in_thing hma c_1) dX2_raiseNumber_14 ?_
    refine lv_iload_n hx hb dX2_raiseNumber_15 rfl (lv_at hl 2 rfl) ?_
    refine lv_iadd hx hb dX2_raiseNumber_16 ?_
    refine va_iast hx hb hK hP hD hS 2 0 rfl rfl (in_thing hma c_1) dX2_raiseNumber_17 (fun H locs hP hD hS => ?_)
    have hP : va_P (dC, dI) vwCl [(q2, .inr (2, [.ref q2a, .ref q2b, .ref q2c, .int ma])), (q2a, .inl (cA, 6, .inl pl)), (q2b, .inl (cA, 60, .inl (upd nu p0.toNatClampNeg ((nu p0.toNatClampNeg) + p1)))), (q2c, .inl (cA, 60, .inl de))] H := hP
    have hD : va_D A [(q2, .inr (2, [.ref q2a, .ref q2b, .ref q2c, .int ma])), (q2a, .inl (cA, 6, .inl pl)), (q2b, .inl (cA, 60, .inl (upd nu p0.toNatClampNeg ((nu p0.toNatClampNeg) + p1)))), (q2c, .inl (cA, 60, .inl de))] := hD
    exact rt_v hx hb hr hlocks (ma, pl, (upd nu p0.toNatClampNeg ((nu p0.toNatClampNeg) + p1)), de) (by simp only [f_X2_raiseNumber, if_neg c_1]) hP hD hS dX2_raiseNumber_18
def f_X2_deepen (ma : Int32) (pl : Nat → Int32) (nu : Nat → Int32) (de : Nat → Int32) (p0 : Int32) (p1 : Int32) : Int32 × (Nat → Int32) × (Nat → Int32) × (Nat → Int32) := (if (f_X2_isThing ma pl nu de p0) = 0 then (ma, pl, nu, de) else (ma, pl, nu, (upd de p0.toNatClampNeg ((de p0.toNatClampNeg) + p1))))
set_option maxHeartbeats 4000000 in
set_option maxRecDepth 100000 in
theorem c_X2_deepen (l : Launch) (dC : Nat → ClassId) (dI : Nat → Nat → Nat) (cA : ClassId) (q2 q2a q2b q2c : Nat) (sz : Nat) (ma : Int32) (pl : Nat → Int32) (nu : Nat → Int32) (de : Nat → Int32) (p0 : Int32) (p1 : Int32) (hma : ma.toInt ≤ 60) : Met l yX2_deepen wsX2_deepen ({ frames := 1, cells := 0, slots := 0, locals := 21 }) (pcW (dC, dI) [(q2, .inr (2, [.ref q2a, .ref q2b, .ref q2c, .int ma])), (q2a, .inl (cA, 6, .inl pl)), (q2b, .inl (cA, 60, .inl nu)), (q2c, .inl (cA, 60, .inl de))] [(cA, .int)] sz [.ref q2, .int p0, .int p1]) (QWv (dC, dI) (f_X2_deepen ma pl nu de p0 p1) (wd_sh cA q2 q2a q2b q2c) (va_A [(q2, .inr (2, [.ref q2a, .ref q2b, .ref q2c, .int ma])), (q2a, .inl (cA, 6, .inl pl)), (q2b, .inl (cA, 60, .inl nu)), (q2c, .inl (cA, 60, .inl de))] sz)) 0 0 (va_A [(q2, .inr (2, [.ref q2a, .ref q2b, .ref q2c, .int ma])), (q2a, .inl (cA, 6, .inl pl)), (q2b, .inl (cA, 60, .inl nu)), (q2c, .inl (cA, 60, .inl de))] sz) := by
  refine Met.ofW (cc := cX2_deepen) (maxL := 3) (ret := none) (by decide) rfl ?_
  intro p e s m args below meth c s₁ B hml hv
  obtain ⟨rfl, hsz, hN, hP, hK, hD0⟩ := hv
  have hx := B.exec
  have hb := B.bytes
  have hr := B.returns
  have hts := atoms_spec (ws := wsX2_deepen) B.pre
  have hown : s.vm.findClass RX2 = some m.cls := findClass_of_methodNamed B.named
  have hlocks := B.notSynchronized
  subst hsz
  have hD := hD0.self (sz := s.heap.size)
  generalize hAe : va_A [(q2, .inr (2, [.ref q2a, .ref q2b, .ref q2c, .int ma])), (q2a, .inl (cA, 6, .inl pl)), (q2b, .inl (cA, 60, .inl nu)), (q2c, .inl (cA, 60, .inl de))] s.heap.size = A at hD ⊢
  have hA : ∀ q : Nat, s.heap.size ≤ q → A q := fun q h => by rw [← hAe]; exact Or.inr h
  have hS : va_S A s.heap s.heap [] := va_S.rf
  have hl := lv_entry ([.ref q2, .int p0, .int p1]) (n := 3) (Nat.le_of_ble_eq_true rfl)
  rw [lg_entry_eq]
  generalize (lg_sl ([.ref q2, .int p0, .int p1]) ++ List.replicate (3 - (lg_sl ([.ref q2, .int p0, .int p1])).length) Slot.unset).toArray = ls at hl ⊢
  have hl : lv_has ls 3 [(0, .ref q2), (1, .int p0), (2, .int p1)] := hl
  refine lv_aload_n hx hb dX2_deepen_0 rfl (lv_at hl 0 rfl) ?_
  refine lv_iload_n hx hb dX2_deepen_1 rfl (lv_at hl 1 rfl) ?_
  have hPc := hP.sub (ws' := [(q2, .inr (2, [.ref q2a, .ref q2b, .ref q2c, .int ma])), (q2a, .inl (cA, 6, .inl pl)), (q2b, .inl (cA, 60, .inl nu)), (q2c, .inl (cA, 60, .inl de))]) [0, 1, 2, 3] rfl
  refine kx_read (va_runV (As := [.int p0]) (rest := []) ⟨hx, hb, hml, hown, hts⟩ (c_X2_isThing l dC dI cA q2 q2a q2b q2c ma pl nu de p0) (cwV 1 hts gX2_deepen_X2_isThing rfl rfl rfl (by decide +kernel) ⟨(Nat.le_of_ble_eq_true rfl), (Nat.le_of_ble_eq_true rfl)⟩) (pR hN hPc hK (ci := 2) (q0 := 0) rfl rfl rfl) rfl rfl hl.1 rfl (lv_room (Nat.le_of_ble_eq_true rfl)) dX2_deepen_2 ⟨Nat.zero_le _, Nat.zero_le _⟩) ?_
  refine lv_if_eq (tgt := 18) hx hb dX2_deepen_5 (by decide) (fun c_1 => ?_) (fun c_1 => ?_)
  · exact rt_v hx hb hr hlocks (ma, pl, nu, de) (by simp only [f_X2_deepen, if_pos c_1]) hP hD hS dX2_deepen_18
  · refine lv_aload_n hx hb dX2_deepen_8 rfl (lv_at hl 0 rfl) ?_
    refine va_get (D := (dC, dI)) (ci := 2) (v := .ref q2c) (C := RX2) (T := TX2) (N := 4) hx hb hts (by decide +kernel) hown hK hP 0 rfl rfl 2 (by decide) (hts (.fieldLink RX2 24 RX2 "depths" "[I") (by decide +kernel)) (fun _ h9 => h9) rfl dX2_deepen_9 ?_
    refine lv_iload_n hx hb dX2_deepen_12 rfl (lv_at hl 1 rfl) ?_
    refine lv_dup2_11 hx hb dX2_deepen_13 rfl rfl ?_
    refine va_iald hx hb hK hP 3 0 rfl rfl (in_thing hma c_1) dX2_deepen_14 ?_
    refine lv_iload_n hx hb dX2_deepen_15 rfl (lv_at hl 2 rfl) ?_
    refine lv_iadd hx hb dX2_deepen_16 ?_
    refine va_iast hx hb hK hP hD hS 3 0 rfl rfl (in_thing hma c_1) dX2_deepen_17 (fun H locs hP hD hS => ?_)
    have hP : va_P (dC, dI) vwCl [(q2, .inr (2, [.ref q2a, .ref q2b, .ref q2c, .int ma])), (q2a, .inl (cA, 6, .inl pl)), (q2b, .inl (cA, 60, .inl nu)), (q2c, .inl (cA, 60, .inl (upd de p0.toNatClampNeg ((de p0.toNatClampNeg) + p1))))] H := hP
    have hD : va_D A [(q2, .inr (2, [.ref q2a, .ref q2b, .ref q2c, .int ma])), (q2a, .inl (cA, 6, .inl pl)), (q2b, .inl (cA, 60, .inl nu)), (q2c, .inl (cA, 60, .inl (upd de p0.toNatClampNeg ((de p0.toNatClampNeg) + p1))))] := hD
    exact rt_v hx hb hr hlocks (ma, pl, nu, (upd de p0.toNatClampNeg ((de p0.toNatClampNeg) + p1))) (by simp only [f_X2_deepen, if_neg c_1]) hP hD hS dX2_deepen_18
end
section
theorem in_en {et : Int32} (h0 : 0 ≤ et.toInt) (h : ¬ 250 ≤ et) : vp_in et 250 := by
  rw [Int32.le_iff_toInt_le] at h
  have e1 : (250 : Int32).toInt = 250 := by decide
  rw [vp_in_iff]
  omega
theorem in_ent {et x : Int32} (h0 : 0 ≤ et.toInt) (h : ¬ f_X4_isWithin x 0 ((if 250 < et then 250 else et) - 1) = 0) : vp_in x 250 := by
  have h1 := iw_in h
  have e1 : (250 : Int32).toInt = 250 := by decide
  have e0 : (0 : Int32).toInt = 0 := by decide
  have e2 : ((if 250 < et then 250 else et) - 1 : Int32).toInt ≤ 249 := by
    split
    · decide
    · rename_i hh
      rw [Int32.lt_iff_toInt_lt] at hh
      rw [Int32.toInt_sub]
      have e3 : (1 : Int32).toInt = 1 := by decide
      have : (et.toInt - (1 : Int32).toInt).bmod (2 ^ 32) = et.toInt - 1 := by
        rw [e3]
        apply Int.bmod_eq_of_le <;> omega
      rw [this]
      omega
  rw [vp_in_iff]
  omega
def f_X3_restart (et : Int32) (sp : Int32) (ho : Int32) (uw : Int32) (mo : Int32) (cs : Int32) (en : Nat → Int32) : Int32 × Int32 × Int32 × Int32 × Int32 × Int32 × (Nat → Int32) := (0, 0, 0, 0, 0, 0, en)
set_option maxHeartbeats 4000000 in
set_option maxRecDepth 100000 in
theorem c_X3_restart (l : Launch) (dC : Nat → ClassId) (dI : Nat → Nat → Nat) (cA : ClassId) (q3 q3a : Nat) (sz : Nat) (et : Int32) (sp : Int32) (ho : Int32) (uw : Int32) (mo : Int32) (cs : Int32) (en : Nat → Int32) : Met l yX3_restart wsX3_restart ({ frames := 0, cells := 0, slots := 0, locals := 0 }) (pcW (dC, dI) [(q3, .inr (3, [.ref q3a, .int et, .int sp, .int ho, .int uw, .int mo, .int cs])), (q3a, .inl (cA, 250, .inl en))] [(cA, .int)] sz [.ref q3]) (QWv (dC, dI) (f_X3_restart et sp ho uw mo cs en) (wd_ta cA q3 q3a) (va_A [(q3, .inr (3, [.ref q3a, .int et, .int sp, .int ho, .int uw, .int mo, .int cs])), (q3a, .inl (cA, 250, .inl en))] sz)) 0 0 (va_A [(q3, .inr (3, [.ref q3a, .int et, .int sp, .int ho, .int uw, .int mo, .int cs])), (q3a, .inl (cA, 250, .inl en))] sz) := by
  refine Met.ofW (cc := cX3_restart) (maxL := 1) (ret := none) (by decide) rfl ?_
  intro p e s m args below meth c s₁ B hml hv
  obtain ⟨rfl, hsz, hN, hP, hK, hD0⟩ := hv
  have hx := B.exec
  have hb := B.bytes
  have hr := B.returns
  have hts := atoms_spec (ws := wsX3_restart) B.pre
  have hown : s.vm.findClass RX3 = some m.cls := findClass_of_methodNamed B.named
  have hlocks := B.notSynchronized
  subst hsz
  have hD := hD0.self (sz := s.heap.size)
  generalize hAe : va_A [(q3, .inr (3, [.ref q3a, .int et, .int sp, .int ho, .int uw, .int mo, .int cs])), (q3a, .inl (cA, 250, .inl en))] s.heap.size = A at hD ⊢
  have hA : ∀ q : Nat, s.heap.size ≤ q → A q := fun q h => by rw [← hAe]; exact Or.inr h
  have hS : va_S A s.heap s.heap [] := va_S.rf
  have hl := lv_entry ([.ref q3]) (n := 1) (Nat.le_of_ble_eq_true rfl)
  rw [lg_entry_eq]
  generalize (lg_sl ([.ref q3]) ++ List.replicate (1 - (lg_sl ([.ref q3])).length) Slot.unset).toArray = ls at hl ⊢
  have hl : lv_has ls 1 [(0, .ref q3)] := hl
  refine lv_aload_n hx hb dX3_restart_0 rfl (lv_at hl 0 rfl) ?_
  refine lv_iconst (v := 0) hx hb dX3_restart_1 (by decide) ?_
  refine va_put (D := (dC, dI)) (ci := 3) (v := .int 0) (ty := .int) (C := RX3) (T := TX3) (N := 7) hx hb hts (by decide +kernel) tyX3 tyX3_ok nmX3 hown hK hP hD hS 0 rfl rfl 1 (by decide) (hts (.fieldLink RX3 18 RX3 "entered" "I") (by decide +kernel)) (fun _ h9 => h9) rfl (by decide +kernel) rfl rfl (Nat.le_of_ble_eq_true rfl) dX3_restart_2 (fun H locs hP hD hS => ?_)
  have hP : va_P (dC, dI) vwCl [(q3, .inr (3, [.ref q3a, .int 0, .int sp, .int ho, .int uw, .int mo, .int cs])), (q3a, .inl (cA, 250, .inl en))] H := hP
  have hD : va_D A [(q3, .inr (3, [.ref q3a, .int 0, .int sp, .int ho, .int uw, .int mo, .int cs])), (q3a, .inl (cA, 250, .inl en))] := hD
  refine lv_aload_n hx hb dX3_restart_5 rfl (lv_at hl 0 rfl) ?_
  refine lv_iconst (v := 0) hx hb dX3_restart_6 (by decide) ?_
  refine va_put (D := (dC, dI)) (ci := 3) (v := .int 0) (ty := .int) (C := RX3) (T := TX3) (N := 7) hx hb hts (by decide +kernel) tyX3 tyX3_ok nmX3 hown hK hP hD hS 0 rfl rfl 2 (by decide) (hts (.fieldLink RX3 22 RX3 "steps" "I") (by decide +kernel)) (fun _ h9 => h9) rfl (by decide +kernel) rfl rfl (Nat.le_of_ble_eq_true rfl) dX3_restart_7 (fun H locs hP hD hS => ?_)
  have hP : va_P (dC, dI) vwCl [(q3, .inr (3, [.ref q3a, .int 0, .int 0, .int ho, .int uw, .int mo, .int cs])), (q3a, .inl (cA, 250, .inl en))] H := hP
  have hD : va_D A [(q3, .inr (3, [.ref q3a, .int 0, .int 0, .int ho, .int uw, .int mo, .int cs])), (q3a, .inl (cA, 250, .inl en))] := hD
  refine lv_aload_n hx hb dX3_restart_10 rfl (lv_at hl 0 rfl) ?_
  refine lv_iconst (v := 0) hx hb dX3_restart_11 (by decide) ?_
  refine va_put (D := (dC, dI)) (ci := 3) (v := .int 0) (ty := .int) (C := RX3) (T := TX3) (N := 7) hx hb hts (by decide +kernel) tyX3 tyX3_ok nmX3 hown hK hP hD hS 0 rfl rfl 3 (by decide) (hts (.fieldLink RX3 25 RX3 "holds" "I") (by decide +kernel)) (fun _ h9 => h9) rfl (by decide +kernel) rfl rfl (Nat.le_of_ble_eq_true rfl) dX3_restart_12 (fun H locs hP hD hS => ?_)
  have hP : va_P (dC, dI) vwCl [(q3, .inr (3, [.ref q3a, .int 0, .int 0, .int 0, .int uw, .int mo, .int cs])), (q3a, .inl (cA, 250, .inl en))] H := hP
  have hD : va_D A [(q3, .inr (3, [.ref q3a, .int 0, .int 0, .int 0, .int uw, .int mo, .int cs])), (q3a, .inl (cA, 250, .inl en))] := hD
  refine lv_aload_n hx hb dX3_restart_15 rfl (lv_at hl 0 rfl) ?_
  refine lv_iconst (v := 0) hx hb dX3_restart_16 (by decide) ?_
  refine va_put (D := (dC, dI)) (ci := 3) (v := .int 0) (ty := .int) (C := RX3) (T := TX3) (N := 7) hx hb hts (by decide +kernel) tyX3 tyX3_ok nmX3 hown hK hP hD hS 0 rfl rfl 4 (by decide) (hts (.fieldLink RX3 28 RX3 "underWay" "I") (by decide +kernel)) (fun _ h9 => h9) rfl (by decide +kernel) rfl rfl (Nat.le_of_ble_eq_true rfl) dX3_restart_17 (fun H locs hP hD hS => ?_)
  have hP : va_P (dC, dI) vwCl [(q3, .inr (3, [.ref q3a, .int 0, .int 0, .int 0, .int 0, .int mo, .int cs])), (q3a, .inl (cA, 250, .inl en))] H := hP
  have hD : va_D A [(q3, .inr (3, [.ref q3a, .int 0, .int 0, .int 0, .int 0, .int mo, .int cs])), (q3a, .inl (cA, 250, .inl en))] := hD
  refine lv_aload_n hx hb dX3_restart_20 rfl (lv_at hl 0 rfl) ?_
  refine lv_iconst (v := 0) hx hb dX3_restart_21 (by decide) ?_
  refine va_put (D := (dC, dI)) (ci := 3) (v := .int 0) (ty := .int) (C := RX3) (T := TX3) (N := 7) hx hb hts (by decide +kernel) tyX3 tyX3_ok nmX3 hown hK hP hD hS 0 rfl rfl 5 (by decide) (hts (.fieldLink RX3 31 RX3 "most" "I") (by decide +kernel)) (fun _ h9 => h9) rfl (by decide +kernel) rfl rfl (Nat.le_of_ble_eq_true rfl) dX3_restart_22 (fun H locs hP hD hS => ?_)
  have hP : va_P (dC, dI) vwCl [(q3, .inr (3, [.ref q3a, .int 0, .int 0, .int 0, .int 0, .int 0, .int cs])), (q3a, .inl (cA, 250, .inl en))] H := hP
  have hD : va_D A [(q3, .inr (3, [.ref q3a, .int 0, .int 0, .int 0, .int 0, .int 0, .int cs])), (q3a, .inl (cA, 250, .inl en))] := hD
  refine lv_aload_n hx hb dX3_restart_25 rfl (lv_at hl 0 rfl) ?_
  refine lv_iconst (v := 0) hx hb dX3_restart_26 (by decide) ?_
  refine va_put (D := (dC, dI)) (ci := 3) (v := .int 0) (ty := .int) (C := RX3) (T := TX3) (N := 7) hx hb hts (by decide +kernel) tyX3 tyX3_ok nmX3 hown hK hP hD hS 0 rfl rfl 6 (by decide) (hts (.fieldLink RX3 34 RX3 "cutShort" "I") (by decide +kernel)) (fun _ h9 => h9) rfl (by decide +kernel) rfl rfl (Nat.le_of_ble_eq_true rfl) dX3_restart_27 (fun H locs hP hD hS => ?_)
  have hP : va_P (dC, dI) vwCl [(q3, .inr (3, [.ref q3a, .int 0, .int 0, .int 0, .int 0, .int 0, .int 0])), (q3a, .inl (cA, 250, .inl en))] H := hP
  have hD : va_D A [(q3, .inr (3, [.ref q3a, .int 0, .int 0, .int 0, .int 0, .int 0, .int 0])), (q3a, .inl (cA, 250, .inl en))] := hD
  exact rt_v hx hb hr hlocks (0, 0, 0, 0, 0, 0, en) (by simp only [f_X3_restart]) hP hD hS dX3_restart_30
def f_X3_enter (et : Int32) (sp : Int32) (ho : Int32) (uw : Int32) (mo : Int32) (cs : Int32) (en : Nat → Int32) (p0 : Int32) : Int32 × Int32 × Int32 × Int32 × Int32 × Int32 × (Nat → Int32) := (if 250 ≤ et then ((et + 1), sp, ho, uw, mo, cs, en) else ((et + 1), sp, ho, uw, mo, cs, (upd en et.toNatClampNeg p0)))
set_option maxHeartbeats 4000000 in
set_option maxRecDepth 100000 in
theorem c_X3_enter (l : Launch) (dC : Nat → ClassId) (dI : Nat → Nat → Nat) (cA : ClassId) (q3 q3a : Nat) (sz : Nat) (et : Int32) (sp : Int32) (ho : Int32) (uw : Int32) (mo : Int32) (cs : Int32) (en : Nat → Int32) (p0 : Int32) (het : 0 ≤ et.toInt) : Met l yX3_enter wsX3_enter ({ frames := 0, cells := 0, slots := 0, locals := 0 }) (pcW (dC, dI) [(q3, .inr (3, [.ref q3a, .int et, .int sp, .int ho, .int uw, .int mo, .int cs])), (q3a, .inl (cA, 250, .inl en))] [(cA, .int)] sz [.ref q3, .int p0]) (QWv (dC, dI) (f_X3_enter et sp ho uw mo cs en p0) (wd_ta cA q3 q3a) (va_A [(q3, .inr (3, [.ref q3a, .int et, .int sp, .int ho, .int uw, .int mo, .int cs])), (q3a, .inl (cA, 250, .inl en))] sz)) 0 0 (va_A [(q3, .inr (3, [.ref q3a, .int et, .int sp, .int ho, .int uw, .int mo, .int cs])), (q3a, .inl (cA, 250, .inl en))] sz) := by
  refine Met.ofW (cc := cX3_enter) (maxL := 2) (ret := none) (by decide) rfl ?_
  intro p e s m args below meth c s₁ B hml hv
  obtain ⟨rfl, hsz, hN, hP, hK, hD0⟩ := hv
  have hx := B.exec
  have hb := B.bytes
  have hr := B.returns
  have hts := atoms_spec (ws := wsX3_enter) B.pre
  have hown : s.vm.findClass RX3 = some m.cls := findClass_of_methodNamed B.named
  have hlocks := B.notSynchronized
  subst hsz
  have hD := hD0.self (sz := s.heap.size)
  generalize hAe : va_A [(q3, .inr (3, [.ref q3a, .int et, .int sp, .int ho, .int uw, .int mo, .int cs])), (q3a, .inl (cA, 250, .inl en))] s.heap.size = A at hD ⊢
  have hA : ∀ q : Nat, s.heap.size ≤ q → A q := fun q h => by rw [← hAe]; exact Or.inr h
  have hS : va_S A s.heap s.heap [] := va_S.rf
  have hl := lv_entry ([.ref q3, .int p0]) (n := 2) (Nat.le_of_ble_eq_true rfl)
  rw [lg_entry_eq]
  generalize (lg_sl ([.ref q3, .int p0]) ++ List.replicate (2 - (lg_sl ([.ref q3, .int p0])).length) Slot.unset).toArray = ls at hl ⊢
  have hl : lv_has ls 2 [(0, .ref q3), (1, .int p0)] := hl
  refine lv_aload_n hx hb dX3_enter_0 rfl (lv_at hl 0 rfl) ?_
  refine va_get (D := (dC, dI)) (ci := 3) (v := .int et) (C := RX3) (T := TX3) (N := 7) hx hb hts (by decide +kernel) hown hK hP 0 rfl rfl 1 (by decide) (hts (.fieldLink RX3 18 RX3 "entered" "I") (by decide +kernel)) (fun _ h9 => h9) rfl dX3_enter_1 ?_
  refine lv_sipush (v := 250) hx hb dX3_enter_4 (by decide) ?_
  refine lv_icmp_ge (tgt := 20) hx hb dX3_enter_7 (by decide) (fun c_1 => ?_) (fun c_1 => ?_)
  · refine lv_aload_n hx hb dX3_enter_20 rfl (lv_at hl 0 rfl) ?_
    refine lv_dup hx hb dX3_enter_21 rfl ?_
    refine va_get (D := (dC, dI)) (ci := 3) (v := .int et) (C := RX3) (T := TX3) (N := 7) hx hb hts (by decide +kernel) hown hK hP 0 rfl rfl 1 (by decide) (hts (.fieldLink RX3 18 RX3 "entered" "I") (by decide +kernel)) (fun _ h9 => h9) rfl dX3_enter_22 ?_
    refine lv_iconst (v := 1) hx hb dX3_enter_25 (by decide) ?_
    refine lv_iadd hx hb dX3_enter_26 ?_
    refine va_put (D := (dC, dI)) (ci := 3) (v := .int (et + 1)) (ty := .int) (C := RX3) (T := TX3) (N := 7) hx hb hts (by decide +kernel) tyX3 tyX3_ok nmX3 hown hK hP hD hS 0 rfl rfl 1 (by decide) (hts (.fieldLink RX3 18 RX3 "entered" "I") (by decide +kernel)) (fun _ h9 => h9) rfl (by decide +kernel) rfl rfl (Nat.le_of_ble_eq_true rfl) dX3_enter_27 (fun H locs hP hD hS => ?_)
    have hP : va_P (dC, dI) vwCl [(q3, .inr (3, [.ref q3a, .int (et + 1), .int sp, .int ho, .int uw, .int mo, .int cs])), (q3a, .inl (cA, 250, .inl en))] H := hP
    have hD : va_D A [(q3, .inr (3, [.ref q3a, .int (et + 1), .int sp, .int ho, .int uw, .int mo, .int cs])), (q3a, .inl (cA, 250, .inl en))] := hD
    exact rt_v hx hb hr hlocks ((et + 1), sp, ho, uw, mo, cs, en) (by simp only [f_X3_enter, if_pos c_1]) hP hD hS dX3_enter_30
  · refine lv_aload_n hx hb dX3_enter_10 rfl (lv_at hl 0 rfl) ?_
    refine va_get (D := (dC, dI)) (ci := 3) (v := .ref q3a) (C := RX3) (T := TX3) (N := 7) hx hb hts (by decide +kernel) hown hK hP 0 rfl rfl 0 (by decide) (hts (.fieldLink RX3 9 RX3 "entries" "[I") (by decide +kernel)) (fun _ h9 => h9) rfl dX3_enter_11 ?_
    refine lv_aload_n hx hb dX3_enter_14 rfl (lv_at hl 0 rfl) ?_
    refine va_get (D := (dC, dI)) (ci := 3) (v := .int et) (C := RX3) (T := TX3) (N := 7) hx hb hts (by decide +kernel) hown hK hP 0 rfl rfl 1 (by decide) (hts (.fieldLink RX3 18 RX3 "entered" "I") (by decide +kernel)) (fun _ h9 => h9) rfl dX3_enter_15 ?_
    refine lv_iload_n hx hb dX3_enter_18 rfl (lv_at hl 1 rfl) ?_
    refine va_iast hx hb hK hP hD hS 1 0 rfl rfl (in_en het c_1) dX3_enter_19 (fun H locs hP hD hS => ?_)
    have hP : va_P (dC, dI) vwCl [(q3, .inr (3, [.ref q3a, .int et, .int sp, .int ho, .int uw, .int mo, .int cs])), (q3a, .inl (cA, 250, .inl (upd en et.toNatClampNeg p0)))] H := hP
    have hD : va_D A [(q3, .inr (3, [.ref q3a, .int et, .int sp, .int ho, .int uw, .int mo, .int cs])), (q3a, .inl (cA, 250, .inl (upd en et.toNatClampNeg p0)))] := hD
    refine lv_aload_n hx hb dX3_enter_20 rfl (lv_at hl 0 rfl) ?_
    refine lv_dup hx hb dX3_enter_21 rfl ?_
    refine va_get (D := (dC, dI)) (ci := 3) (v := .int et) (C := RX3) (T := TX3) (N := 7) hx hb hts (by decide +kernel) hown hK hP 0 rfl rfl 1 (by decide) (hts (.fieldLink RX3 18 RX3 "entered" "I") (by decide +kernel)) (fun _ h9 => h9) rfl dX3_enter_22 ?_
    refine lv_iconst (v := 1) hx hb dX3_enter_25 (by decide) ?_
    refine lv_iadd hx hb dX3_enter_26 ?_
    refine va_put (D := (dC, dI)) (ci := 3) (v := .int (et + 1)) (ty := .int) (C := RX3) (T := TX3) (N := 7) hx hb hts (by decide +kernel) tyX3 tyX3_ok nmX3 hown hK hP hD hS 0 rfl rfl 1 (by decide) (hts (.fieldLink RX3 18 RX3 "entered" "I") (by decide +kernel)) (fun _ h9 => h9) rfl (by decide +kernel) rfl rfl (Nat.le_of_ble_eq_true rfl) dX3_enter_27 (fun H locs hP hD hS => ?_)
    have hP : va_P (dC, dI) vwCl [(q3, .inr (3, [.ref q3a, .int (et + 1), .int sp, .int ho, .int uw, .int mo, .int cs])), (q3a, .inl (cA, 250, .inl (upd en et.toNatClampNeg p0)))] H := hP
    have hD : va_D A [(q3, .inr (3, [.ref q3a, .int (et + 1), .int sp, .int ho, .int uw, .int mo, .int cs])), (q3a, .inl (cA, 250, .inl (upd en et.toNatClampNeg p0)))] := hD
    exact rt_v hx hb hr hlocks ((et + 1), sp, ho, uw, mo, cs, (upd en et.toNatClampNeg p0)) (by simp only [f_X3_enter, if_neg c_1]) hP hD hS dX3_enter_30
def f_X3_enterMark (et : Int32) (sp : Int32) (ho : Int32) (uw : Int32) (mo : Int32) (cs : Int32) (en : Nat → Int32) (p0 : Int32) : Int32 × Int32 × Int32 × Int32 × Int32 × Int32 × (Nat → Int32) := (match f_X3_enter et sp ho uw mo cs en (10000 + p0) with | (et_1, sp_1, ho_1, uw_1, mo_1, cs_1, en_1) => (et_1, sp_1, ho_1, uw_1, mo_1, cs_1, en_1))
set_option maxHeartbeats 4000000 in
set_option maxRecDepth 100000 in
theorem c_X3_enterMark (l : Launch) (dC : Nat → ClassId) (dI : Nat → Nat → Nat) (cA : ClassId) (q3 q3a : Nat) (sz : Nat) (et : Int32) (sp : Int32) (ho : Int32) (uw : Int32) (mo : Int32) (cs : Int32) (en : Nat → Int32) (p0 : Int32) (het : 0 ≤ et.toInt) : Met l yX3_enterMark wsX3_enterMark ({ frames := 1, cells := 0, slots := 0, locals := 21 }) (pcW (dC, dI) [(q3, .inr (3, [.ref q3a, .int et, .int sp, .int ho, .int uw, .int mo, .int cs])), (q3a, .inl (cA, 250, .inl en))] [(cA, .int)] sz [.ref q3, .int p0]) (QWv (dC, dI) (f_X3_enterMark et sp ho uw mo cs en p0) (wd_ta cA q3 q3a) (va_A [(q3, .inr (3, [.ref q3a, .int et, .int sp, .int ho, .int uw, .int mo, .int cs])), (q3a, .inl (cA, 250, .inl en))] sz)) 0 0 (va_A [(q3, .inr (3, [.ref q3a, .int et, .int sp, .int ho, .int uw, .int mo, .int cs])), (q3a, .inl (cA, 250, .inl en))] sz) := by
  refine Met.ofW (cc := cX3_enterMark) (maxL := 2) (ret := none) (by decide) rfl ?_
  intro p e s m args below meth c s₁ B hml hv
  obtain ⟨rfl, hsz, hN, hP, hK, hD0⟩ := hv
  have hx := B.exec
  have hb := B.bytes
  have hr := B.returns
  have hts := atoms_spec (ws := wsX3_enterMark) B.pre
  have hown : s.vm.findClass RX3 = some m.cls := findClass_of_methodNamed B.named
  have hlocks := B.notSynchronized
  subst hsz
  have hD := hD0.self (sz := s.heap.size)
  generalize hAe : va_A [(q3, .inr (3, [.ref q3a, .int et, .int sp, .int ho, .int uw, .int mo, .int cs])), (q3a, .inl (cA, 250, .inl en))] s.heap.size = A at hD ⊢
  have hA : ∀ q : Nat, s.heap.size ≤ q → A q := fun q h => by rw [← hAe]; exact Or.inr h
  have hS : va_S A s.heap s.heap [] := va_S.rf
  have hl := lv_entry ([.ref q3, .int p0]) (n := 2) (Nat.le_of_ble_eq_true rfl)
  rw [lg_entry_eq]
  generalize (lg_sl ([.ref q3, .int p0]) ++ List.replicate (2 - (lg_sl ([.ref q3, .int p0])).length) Slot.unset).toArray = ls at hl ⊢
  have hl : lv_has ls 2 [(0, .ref q3), (1, .int p0)] := hl
  refine lv_aload_n hx hb dX3_enterMark_0 rfl (lv_at hl 0 rfl) ?_
  refine lv_sipush (v := 10000) hx hb dX3_enterMark_1 (by decide) ?_
  refine lv_iload_n hx hb dX3_enterMark_4 rfl (lv_at hl 1 rfl) ?_
  refine lv_iadd hx hb dX3_enterMark_5 ?_
  refine kx_wv (wr := []) hP hD hS hA [0, 1] [] rfl rfl (by decide) (by decide) (va_runV (As := [.int (10000 + p0)]) (rest := []) ⟨hx, hb, hml, hown, hts⟩ (c_X3_enter l dC dI cA q3 q3a s.heap.size et sp ho uw mo cs en (10000 + p0) het) (cwV 1 hts gX3_enterMark_X3_enter rfl rfl rfl (by decide +kernel) ⟨(Nat.le_of_ble_eq_true rfl), (Nat.le_of_ble_eq_true rfl)⟩) (pW hN (hP.sub (ws' := [(q3, .inr (3, [.ref q3a, .int et, .int sp, .int ho, .int uw, .int mo, .int cs])), (q3a, .inl (cA, 250, .inl en))]) [0, 1] rfl) hK (hD.sub (ws' := [(q3, .inr (3, [.ref q3a, .int et, .int sp, .int ho, .int uw, .int mo, .int cs])), (q3a, .inl (cA, 250, .inl en))]) [0, 1] (by decide) rfl) (ci := 3) (q0 := 0) rfl rfl rfl) rfl rfl hl.1 rfl (lv_room (Nat.le_of_ble_eq_true rfl)) dX3_enterMark_6 ⟨Nat.zero_le _, Nat.zero_le _⟩) (fun u_1 H locs hw_1 hP hD hS => ?_)
  obtain ⟨et_1, sp_1, ho_1, uw_1, mo_1, cs_1, en_1⟩ := u_1
  have hP : va_P (dC, dI) vwCl [(q3, .inr (3, [.ref q3a, .int et_1, .int sp_1, .int ho_1, .int uw_1, .int mo_1, .int cs_1])), (q3a, .inl (cA, 250, .inl en_1))] H := hP
  have hD : va_D A [(q3, .inr (3, [.ref q3a, .int et_1, .int sp_1, .int ho_1, .int uw_1, .int mo_1, .int cs_1])), (q3a, .inl (cA, 250, .inl en_1))] := hD
  exact rt_v hx hb hr hlocks (et_1, sp_1, ho_1, uw_1, mo_1, cs_1, en_1) (by simp only [f_X3_enterMark, ← hw_1]) hP hD hS dX3_enterMark_9
def f_X3_enterBegun (et : Int32) (sp : Int32) (ho : Int32) (uw : Int32) (mo : Int32) (cs : Int32) (en : Nat → Int32) (p0 : Int32) : Int32 × Int32 × Int32 × Int32 × Int32 × Int32 × (Nat → Int32) := (match f_X3_enter et sp (ho + 1) (uw + 1) (if mo < (uw + 1) then (uw + 1) else mo) cs en (1000 + p0) with | (et_1, sp_1, ho_1, uw_1, mo_1, cs_1, en_1) => (et_1, sp_1, ho_1, uw_1, mo_1, cs_1, en_1))
set_option maxHeartbeats 4000000 in
set_option maxRecDepth 100000 in
theorem c_X3_enterBegun (l : Launch) (dC : Nat → ClassId) (dI : Nat → Nat → Nat) (cA : ClassId) (q3 q3a : Nat) (sz : Nat) (et : Int32) (sp : Int32) (ho : Int32) (uw : Int32) (mo : Int32) (cs : Int32) (en : Nat → Int32) (p0 : Int32) (het : 0 ≤ et.toInt) : Met l yX3_enterBegun wsX3_enterBegun ({ frames := 1, cells := 0, slots := 0, locals := 21 }) (pcW (dC, dI) [(q3, .inr (3, [.ref q3a, .int et, .int sp, .int ho, .int uw, .int mo, .int cs])), (q3a, .inl (cA, 250, .inl en))] [(cA, .int)] sz [.ref q3, .int p0]) (QWv (dC, dI) (f_X3_enterBegun et sp ho uw mo cs en p0) (wd_ta cA q3 q3a) (va_A [(q3, .inr (3, [.ref q3a, .int et, .int sp, .int ho, .int uw, .int mo, .int cs])), (q3a, .inl (cA, 250, .inl en))] sz)) 0 0 (va_A [(q3, .inr (3, [.ref q3a, .int et, .int sp, .int ho, .int uw, .int mo, .int cs])), (q3a, .inl (cA, 250, .inl en))] sz) := by
  refine Met.ofW (cc := cX3_enterBegun) (maxL := 2) (ret := none) (by decide) rfl ?_
  intro p e s m args below meth c s₁ B hml hv
  obtain ⟨rfl, hsz, hN, hP, hK, hD0⟩ := hv
  have hx := B.exec
  have hb := B.bytes
  have hr := B.returns
  have hts := atoms_spec (ws := wsX3_enterBegun) B.pre
  have hown : s.vm.findClass RX3 = some m.cls := findClass_of_methodNamed B.named
  have hlocks := B.notSynchronized
  subst hsz
  have hD := hD0.self (sz := s.heap.size)
  generalize hAe : va_A [(q3, .inr (3, [.ref q3a, .int et, .int sp, .int ho, .int uw, .int mo, .int cs])), (q3a, .inl (cA, 250, .inl en))] s.heap.size = A at hD ⊢
  have hA : ∀ q : Nat, s.heap.size ≤ q → A q := fun q h => by rw [← hAe]; exact Or.inr h
  have hS : va_S A s.heap s.heap [] := va_S.rf
  have hl := lv_entry ([.ref q3, .int p0]) (n := 2) (Nat.le_of_ble_eq_true rfl)
  rw [lg_entry_eq]
  generalize (lg_sl ([.ref q3, .int p0]) ++ List.replicate (2 - (lg_sl ([.ref q3, .int p0])).length) Slot.unset).toArray = ls at hl ⊢
  have hl : lv_has ls 2 [(0, .ref q3), (1, .int p0)] := hl
  refine lv_aload_n hx hb dX3_enterBegun_0 rfl (lv_at hl 0 rfl) ?_
  refine lv_dup hx hb dX3_enterBegun_1 rfl ?_
  refine va_get (D := (dC, dI)) (ci := 3) (v := .int ho) (C := RX3) (T := TX3) (N := 7) hx hb hts (by decide +kernel) hown hK hP 0 rfl rfl 3 (by decide) (hts (.fieldLink RX3 25 RX3 "holds" "I") (by decide +kernel)) (fun _ h9 => h9) rfl dX3_enterBegun_2 ?_
  refine lv_iconst (v := 1) hx hb dX3_enterBegun_5 (by decide) ?_
  refine lv_iadd hx hb dX3_enterBegun_6 ?_
  refine va_put (D := (dC, dI)) (ci := 3) (v := .int (ho + 1)) (ty := .int) (C := RX3) (T := TX3) (N := 7) hx hb hts (by decide +kernel) tyX3 tyX3_ok nmX3 hown hK hP hD hS 0 rfl rfl 3 (by decide) (hts (.fieldLink RX3 25 RX3 "holds" "I") (by decide +kernel)) (fun _ h9 => h9) rfl (by decide +kernel) rfl rfl (Nat.le_of_ble_eq_true rfl) dX3_enterBegun_7 (fun H locs hP hD hS => ?_)
  have hP : va_P (dC, dI) vwCl [(q3, .inr (3, [.ref q3a, .int et, .int sp, .int (ho + 1), .int uw, .int mo, .int cs])), (q3a, .inl (cA, 250, .inl en))] H := hP
  have hD : va_D A [(q3, .inr (3, [.ref q3a, .int et, .int sp, .int (ho + 1), .int uw, .int mo, .int cs])), (q3a, .inl (cA, 250, .inl en))] := hD
  refine lv_aload_n hx hb dX3_enterBegun_10 rfl (lv_at hl 0 rfl) ?_
  refine lv_dup hx hb dX3_enterBegun_11 rfl ?_
  refine va_get (D := (dC, dI)) (ci := 3) (v := .int uw) (C := RX3) (T := TX3) (N := 7) hx hb hts (by decide +kernel) hown hK hP 0 rfl rfl 4 (by decide) (hts (.fieldLink RX3 28 RX3 "underWay" "I") (by decide +kernel)) (fun _ h9 => h9) rfl dX3_enterBegun_12 ?_
  refine lv_iconst (v := 1) hx hb dX3_enterBegun_15 (by decide) ?_
  refine lv_iadd hx hb dX3_enterBegun_16 ?_
  refine va_put (D := (dC, dI)) (ci := 3) (v := .int (uw + 1)) (ty := .int) (C := RX3) (T := TX3) (N := 7) hx hb hts (by decide +kernel) tyX3 tyX3_ok nmX3 hown hK hP hD hS 0 rfl rfl 4 (by decide) (hts (.fieldLink RX3 28 RX3 "underWay" "I") (by decide +kernel)) (fun _ h9 => h9) rfl (by decide +kernel) rfl rfl (Nat.le_of_ble_eq_true rfl) dX3_enterBegun_17 (fun H locs hP hD hS => ?_)
  have hP : va_P (dC, dI) vwCl [(q3, .inr (3, [.ref q3a, .int et, .int sp, .int (ho + 1), .int (uw + 1), .int mo, .int cs])), (q3a, .inl (cA, 250, .inl en))] H := hP
  have hD : va_D A [(q3, .inr (3, [.ref q3a, .int et, .int sp, .int (ho + 1), .int (uw + 1), .int mo, .int cs])), (q3a, .inl (cA, 250, .inl en))] := hD
  refine lv_aload_n hx hb dX3_enterBegun_20 rfl (lv_at hl 0 rfl) ?_
  refine lv_aload_n hx hb dX3_enterBegun_21 rfl (lv_at hl 0 rfl) ?_
  refine va_get (D := (dC, dI)) (ci := 3) (v := .int mo) (C := RX3) (T := TX3) (N := 7) hx hb hts (by decide +kernel) hown hK hP 0 rfl rfl 5 (by decide) (hts (.fieldLink RX3 31 RX3 "most" "I") (by decide +kernel)) (fun _ h9 => h9) rfl dX3_enterBegun_22 ?_
  refine lv_aload_n hx hb dX3_enterBegun_25 rfl (lv_at hl 0 rfl) ?_
  refine va_get (D := (dC, dI)) (ci := 3) (v := .int (uw + 1)) (C := RX3) (T := TX3) (N := 7) hx hb hts (by decide +kernel) hown hK hP 0 rfl rfl 4 (by decide) (hts (.fieldLink RX3 28 RX3 "underWay" "I") (by decide +kernel)) (fun _ h9 => h9) rfl dX3_enterBegun_26 ?_
  refine va_mmax hx hb (hml.trans hl.1.symm) hown (hts (.methodLink RX3 51 Lib.Math.max.name) (by decide +kernel)) (hts (.static Lib.Math.max.name) (by decide +kernel)) (hts (.initialized "java/lang/Math") (by decide +kernel)) (hts (.code Lib.Math.max.name Lib.Math.max.code 2 (some .int)) (by decide +kernel)) (Nat.le_of_ble_eq_true rfl) (Nat.le_of_ble_eq_true rfl) (Nat.zero_le _) (Nat.zero_le _) dX3_enterBegun_29 ?_
  refine va_put (D := (dC, dI)) (ci := 3) (v := .int (if mo < (uw + 1) then (uw + 1) else mo)) (ty := .int) (C := RX3) (T := TX3) (N := 7) hx hb hts (by decide +kernel) tyX3 tyX3_ok nmX3 hown hK hP hD hS 0 rfl rfl 5 (by decide) (hts (.fieldLink RX3 31 RX3 "most" "I") (by decide +kernel)) (fun _ h9 => h9) rfl (by decide +kernel) rfl rfl (Nat.le_of_ble_eq_true rfl) dX3_enterBegun_32 (fun H locs hP hD hS => ?_)
  have hP : va_P (dC, dI) vwCl [(q3, .inr (3, [.ref q3a, .int et, .int sp, .int (ho + 1), .int (uw + 1), .int (if mo < (uw + 1) then (uw + 1) else mo), .int cs])), (q3a, .inl (cA, 250, .inl en))] H := hP
  have hD : va_D A [(q3, .inr (3, [.ref q3a, .int et, .int sp, .int (ho + 1), .int (uw + 1), .int (if mo < (uw + 1) then (uw + 1) else mo), .int cs])), (q3a, .inl (cA, 250, .inl en))] := hD
  refine lv_aload_n hx hb dX3_enterBegun_35 rfl (lv_at hl 0 rfl) ?_
  refine lv_sipush (v := 1000) hx hb dX3_enterBegun_36 (by decide) ?_
  refine lv_iload_n hx hb dX3_enterBegun_39 rfl (lv_at hl 1 rfl) ?_
  refine lv_iadd hx hb dX3_enterBegun_40 ?_
  refine kx_wv (wr := []) hP hD hS hA [0, 1] [] rfl rfl (by decide) (by decide) (va_runV (As := [.int (1000 + p0)]) (rest := []) ⟨hx, hb, hml, hown, hts⟩ (c_X3_enter l dC dI cA q3 q3a H.size et sp (ho + 1) (uw + 1) (if mo < (uw + 1) then (uw + 1) else mo) cs en (1000 + p0) het) (cwV 1 hts gX3_enterBegun_X3_enter rfl rfl rfl (by decide +kernel) ⟨(Nat.le_of_ble_eq_true rfl), (Nat.le_of_ble_eq_true rfl)⟩) (pW hN (hP.sub (ws' := [(q3, .inr (3, [.ref q3a, .int et, .int sp, .int (ho + 1), .int (uw + 1), .int (if mo < (uw + 1) then (uw + 1) else mo), .int cs])), (q3a, .inl (cA, 250, .inl en))]) [0, 1] rfl) hK (hD.sub (ws' := [(q3, .inr (3, [.ref q3a, .int et, .int sp, .int (ho + 1), .int (uw + 1), .int (if mo < (uw + 1) then (uw + 1) else mo), .int cs])), (q3a, .inl (cA, 250, .inl en))]) [0, 1] (by decide) rfl) (ci := 3) (q0 := 0) rfl rfl rfl) rfl rfl hl.1 rfl (lv_room (Nat.le_of_ble_eq_true rfl)) dX3_enterBegun_41 ⟨Nat.zero_le _, Nat.zero_le _⟩) (fun u_1 H locs hw_1 hP hD hS => ?_)
  obtain ⟨et_1, sp_1, ho_1, uw_1, mo_1, cs_1, en_1⟩ := u_1
  have hP : va_P (dC, dI) vwCl [(q3, .inr (3, [.ref q3a, .int et_1, .int sp_1, .int ho_1, .int uw_1, .int mo_1, .int cs_1])), (q3a, .inl (cA, 250, .inl en_1))] H := hP
  have hD : va_D A [(q3, .inr (3, [.ref q3a, .int et_1, .int sp_1, .int ho_1, .int uw_1, .int mo_1, .int cs_1])), (q3a, .inl (cA, 250, .inl en_1))] := hD
  exact rt_v hx hb hr hlocks (et_1, sp_1, ho_1, uw_1, mo_1, cs_1, en_1) (by simp only [f_X3_enterBegun, ← hw_1]) hP hD hS dX3_enterBegun_44
def f_X3_enterLeft (et : Int32) (sp : Int32) (ho : Int32) (uw : Int32) (mo : Int32) (cs : Int32) (en : Nat → Int32) (p0 : Int32) (p1 : Int32) : Int32 × Int32 × Int32 × Int32 × Int32 × Int32 × (Nat → Int32) := (if p1 = 4 then (match f_X3_enter et sp ho (uw - 1) mo (cs + 1) en ((2000 + (100 * p1)) + p0) with | (et_2, sp_2, ho_2, uw_2, mo_2, cs_2, en_2) => (et_2, sp_2, ho_2, uw_2, mo_2, cs_2, en_2)) else (if p1 = 5 then (match f_X3_enter et sp ho (uw - 1) mo (cs + 1) en ((2000 + (100 * p1)) + p0) with | (et_5, sp_5, ho_5, uw_5, mo_5, cs_5, en_5) => (et_5, sp_5, ho_5, uw_5, mo_5, cs_5, en_5)) else (match f_X3_enter et sp ho (uw - 1) mo cs en ((2000 + (100 * p1)) + p0) with | (et_4, sp_4, ho_4, uw_4, mo_4, cs_4, en_4) => (et_4, sp_4, ho_4, uw_4, mo_4, cs_4, en_4))))
set_option maxHeartbeats 4000000 in
set_option maxRecDepth 100000 in
theorem c_X3_enterLeft (l : Launch) (dC : Nat → ClassId) (dI : Nat → Nat → Nat) (cA : ClassId) (q3 q3a : Nat) (sz : Nat) (et : Int32) (sp : Int32) (ho : Int32) (uw : Int32) (mo : Int32) (cs : Int32) (en : Nat → Int32) (p0 : Int32) (p1 : Int32) (het : 0 ≤ et.toInt) : Met l yX3_enterLeft wsX3_enterLeft ({ frames := 1, cells := 0, slots := 0, locals := 21 }) (pcW (dC, dI) [(q3, .inr (3, [.ref q3a, .int et, .int sp, .int ho, .int uw, .int mo, .int cs])), (q3a, .inl (cA, 250, .inl en))] [(cA, .int)] sz [.ref q3, .int p0, .int p1]) (QWv (dC, dI) (f_X3_enterLeft et sp ho uw mo cs en p0 p1) (wd_ta cA q3 q3a) (va_A [(q3, .inr (3, [.ref q3a, .int et, .int sp, .int ho, .int uw, .int mo, .int cs])), (q3a, .inl (cA, 250, .inl en))] sz)) 0 0 (va_A [(q3, .inr (3, [.ref q3a, .int et, .int sp, .int ho, .int uw, .int mo, .int cs])), (q3a, .inl (cA, 250, .inl en))] sz) := by
  refine Met.ofW (cc := cX3_enterLeft) (maxL := 3) (ret := none) (by decide) rfl ?_
  intro p e s m args below meth c s₁ B hml hv
  obtain ⟨rfl, hsz, hN, hP, hK, hD0⟩ := hv
  have hx := B.exec
  have hb := B.bytes
  have hr := B.returns
  have hts := atoms_spec (ws := wsX3_enterLeft) B.pre
  have hown : s.vm.findClass RX3 = some m.cls := findClass_of_methodNamed B.named
  have hlocks := B.notSynchronized
  subst hsz
  have hD := hD0.self (sz := s.heap.size)
  generalize hAe : va_A [(q3, .inr (3, [.ref q3a, .int et, .int sp, .int ho, .int uw, .int mo, .int cs])), (q3a, .inl (cA, 250, .inl en))] s.heap.size = A at hD ⊢
  have hA : ∀ q : Nat, s.heap.size ≤ q → A q := fun q h => by rw [← hAe]; exact Or.inr h
  have hS : va_S A s.heap s.heap [] := va_S.rf
  have hl := lv_entry ([.ref q3, .int p0, .int p1]) (n := 3) (Nat.le_of_ble_eq_true rfl)
  rw [lg_entry_eq]
  generalize (lg_sl ([.ref q3, .int p0, .int p1]) ++ List.replicate (3 - (lg_sl ([.ref q3, .int p0, .int p1])).length) Slot.unset).toArray = ls at hl ⊢
  have hl : lv_has ls 3 [(0, .ref q3), (1, .int p0), (2, .int p1)] := hl
  refine lv_aload_n hx hb dX3_enterLeft_0 rfl (lv_at hl 0 rfl) ?_
  refine lv_dup hx hb dX3_enterLeft_1 rfl ?_
  refine va_get (D := (dC, dI)) (ci := 3) (v := .int uw) (C := RX3) (T := TX3) (N := 7) hx hb hts (by decide +kernel) hown hK hP 0 rfl rfl 4 (by decide) (hts (.fieldLink RX3 28 RX3 "underWay" "I") (by decide +kernel)) (fun _ h9 => h9) rfl dX3_enterLeft_2 ?_
  refine lv_iconst (v := 1) hx hb dX3_enterLeft_5 (by decide) ?_
  refine lv_isub hx hb dX3_enterLeft_6 ?_
  refine va_put (D := (dC, dI)) (ci := 3) (v := .int (uw - 1)) (ty := .int) (C := RX3) (T := TX3) (N := 7) hx hb hts (by decide +kernel) tyX3 tyX3_ok nmX3 hown hK hP hD hS 0 rfl rfl 4 (by decide) (hts (.fieldLink RX3 28 RX3 "underWay" "I") (by decide +kernel)) (fun _ h9 => h9) rfl (by decide +kernel) rfl rfl (Nat.le_of_ble_eq_true rfl) dX3_enterLeft_7 (fun H locs hP hD hS => ?_)
  have hP : va_P (dC, dI) vwCl [(q3, .inr (3, [.ref q3a, .int et, .int sp, .int ho, .int (uw - 1), .int mo, .int cs])), (q3a, .inl (cA, 250, .inl en))] H := hP
  have hD : va_D A [(q3, .inr (3, [.ref q3a, .int et, .int sp, .int ho, .int (uw - 1), .int mo, .int cs])), (q3a, .inl (cA, 250, .inl en))] := hD
  refine lv_iload_n hx hb dX3_enterLeft_10 rfl (lv_at hl 2 rfl) ?_
  refine lv_iconst (v := 4) hx hb dX3_enterLeft_11 (by decide) ?_
  refine lv_icmp_eq (tgt := 20) hx hb dX3_enterLeft_12 (by decide) (fun c_1 => ?_) (fun c_1 => ?_)
  · refine lv_aload_n hx hb dX3_enterLeft_20 rfl (lv_at hl 0 rfl) ?_
    refine lv_dup hx hb dX3_enterLeft_21 rfl ?_
    refine va_get (D := (dC, dI)) (ci := 3) (v := .int cs) (C := RX3) (T := TX3) (N := 7) hx hb hts (by decide +kernel) hown hK hP 0 rfl rfl 6 (by decide) (hts (.fieldLink RX3 34 RX3 "cutShort" "I") (by decide +kernel)) (fun _ h9 => h9) rfl dX3_enterLeft_22 ?_
    refine lv_iconst (v := 1) hx hb dX3_enterLeft_25 (by decide) ?_
    refine lv_iadd hx hb dX3_enterLeft_26 ?_
    refine va_put (D := (dC, dI)) (ci := 3) (v := .int (cs + 1)) (ty := .int) (C := RX3) (T := TX3) (N := 7) hx hb hts (by decide +kernel) tyX3 tyX3_ok nmX3 hown hK hP hD hS 0 rfl rfl 6 (by decide) (hts (.fieldLink RX3 34 RX3 "cutShort" "I") (by decide +kernel)) (fun _ h9 => h9) rfl (by decide +kernel) rfl rfl (Nat.le_of_ble_eq_true rfl) dX3_enterLeft_27 (fun H locs hP hD hS => ?_)
    have hP : va_P (dC, dI) vwCl [(q3, .inr (3, [.ref q3a, .int et, .int sp, .int ho, .int (uw - 1), .int mo, .int (cs + 1)])), (q3a, .inl (cA, 250, .inl en))] H := hP
    have hD : va_D A [(q3, .inr (3, [.ref q3a, .int et, .int sp, .int ho, .int (uw - 1), .int mo, .int (cs + 1)])), (q3a, .inl (cA, 250, .inl en))] := hD
    refine lv_aload_n hx hb dX3_enterLeft_30 rfl (lv_at hl 0 rfl) ?_
    refine lv_sipush (v := 2000) hx hb dX3_enterLeft_31 (by decide) ?_
    refine lv_bipush (v := 100) hx hb dX3_enterLeft_34 (by decide) ?_
    refine lv_iload_n hx hb dX3_enterLeft_36 rfl (lv_at hl 2 rfl) ?_
    refine lv_imul hx hb dX3_enterLeft_37 ?_
    refine lv_iadd hx hb dX3_enterLeft_38 ?_
    refine lv_iload_n hx hb dX3_enterLeft_39 rfl (lv_at hl 1 rfl) ?_
    refine lv_iadd hx hb dX3_enterLeft_40 ?_
    refine kx_wv (wr := []) hP hD hS hA [0, 1] [] rfl rfl (by decide) (by decide) (va_runV (As := [.int ((2000 + (100 * p1)) + p0)]) (rest := []) ⟨hx, hb, hml, hown, hts⟩ (c_X3_enter l dC dI cA q3 q3a H.size et sp ho (uw - 1) mo (cs + 1) en ((2000 + (100 * p1)) + p0) het) (cwV 1 hts gX3_enterLeft_X3_enter rfl rfl rfl (by decide +kernel) ⟨(Nat.le_of_ble_eq_true rfl), (Nat.le_of_ble_eq_true rfl)⟩) (pW hN (hP.sub (ws' := [(q3, .inr (3, [.ref q3a, .int et, .int sp, .int ho, .int (uw - 1), .int mo, .int (cs + 1)])), (q3a, .inl (cA, 250, .inl en))]) [0, 1] rfl) hK (hD.sub (ws' := [(q3, .inr (3, [.ref q3a, .int et, .int sp, .int ho, .int (uw - 1), .int mo, .int (cs + 1)])), (q3a, .inl (cA, 250, .inl en))]) [0, 1] (by decide) rfl) (ci := 3) (q0 := 0) rfl rfl rfl) rfl rfl hl.1 rfl (lv_room (Nat.le_of_ble_eq_true rfl)) dX3_enterLeft_41 ⟨Nat.zero_le _, Nat.zero_le _⟩) (fun u_2 H locs hw_2 hP hD hS => ?_)
    obtain ⟨et_2, sp_2, ho_2, uw_2, mo_2, cs_2, en_2⟩ := u_2
    have hP : va_P (dC, dI) vwCl [(q3, .inr (3, [.ref q3a, .int et_2, .int sp_2, .int ho_2, .int uw_2, .int mo_2, .int cs_2])), (q3a, .inl (cA, 250, .inl en_2))] H := hP
    have hD : va_D A [(q3, .inr (3, [.ref q3a, .int et_2, .int sp_2, .int ho_2, .int uw_2, .int mo_2, .int cs_2])), (q3a, .inl (cA, 250, .inl en_2))] := hD
    exact rt_v hx hb hr hlocks (et_2, sp_2, ho_2, uw_2, mo_2, cs_2, en_2) (by simp only [f_X3_enterLeft, if_pos c_1, ← hw_2]) hP hD hS dX3_enterLeft_44
  · refine lv_iload_n hx hb dX3_enterLeft_15 rfl (lv_at hl 2 rfl) ?_
    refine lv_iconst (v := 5) hx hb dX3_enterLeft_16 (by decide) ?_
    refine lv_icmp_ne (tgt := 30) hx hb dX3_enterLeft_17 (by decide) (fun c_3 => ?_) (fun c_3 => ?_)
    · refine lv_aload_n hx hb dX3_enterLeft_30 rfl (lv_at hl 0 rfl) ?_
      refine lv_sipush (v := 2000) hx hb dX3_enterLeft_31 (by decide) ?_
      refine lv_bipush (v := 100) hx hb dX3_enterLeft_34 (by decide) ?_
      refine lv_iload_n hx hb dX3_enterLeft_36 rfl (lv_at hl 2 rfl) ?_
      refine lv_imul hx hb dX3_enterLeft_37 ?_
      refine lv_iadd hx hb dX3_enterLeft_38 ?_
      refine lv_iload_n hx hb dX3_enterLeft_39 rfl (lv_at hl 1 rfl) ?_
      refine lv_iadd hx hb dX3_enterLeft_40 ?_
      refine kx_wv (wr := []) hP hD hS hA [0, 1] [] rfl rfl (by decide) (by decide) (va_runV (As := [.int ((2000 + (100 * p1)) + p0)]) (rest := []) ⟨hx, hb, hml, hown, hts⟩ (c_X3_enter l dC dI cA q3 q3a H.size et sp ho (uw - 1) mo cs en ((2000 + (100 * p1)) + p0) het) (cwV 1 hts gX3_enterLeft_X3_enter rfl rfl rfl (by decide +kernel) ⟨(Nat.le_of_ble_eq_true rfl), (Nat.le_of_ble_eq_true rfl)⟩) (pW hN (hP.sub (ws' := [(q3, .inr (3, [.ref q3a, .int et, .int sp, .int ho, .int (uw - 1), .int mo, .int cs])), (q3a, .inl (cA, 250, .inl en))]) [0, 1] rfl) hK (hD.sub (ws' := [(q3, .inr (3, [.ref q3a, .int et, .int sp, .int ho, .int (uw - 1), .int mo, .int cs])), (q3a, .inl (cA, 250, .inl en))]) [0, 1] (by decide) rfl) (ci := 3) (q0 := 0) rfl rfl rfl) rfl rfl hl.1 rfl (lv_room (Nat.le_of_ble_eq_true rfl)) dX3_enterLeft_41 ⟨Nat.zero_le _, Nat.zero_le _⟩) (fun u_4 H locs hw_4 hP hD hS => ?_)
      obtain ⟨et_4, sp_4, ho_4, uw_4, mo_4, cs_4, en_4⟩ := u_4
      have hP : va_P (dC, dI) vwCl [(q3, .inr (3, [.ref q3a, .int et_4, .int sp_4, .int ho_4, .int uw_4, .int mo_4, .int cs_4])), (q3a, .inl (cA, 250, .inl en_4))] H := hP
      have hD : va_D A [(q3, .inr (3, [.ref q3a, .int et_4, .int sp_4, .int ho_4, .int uw_4, .int mo_4, .int cs_4])), (q3a, .inl (cA, 250, .inl en_4))] := hD
      exact rt_v hx hb hr hlocks (et_4, sp_4, ho_4, uw_4, mo_4, cs_4, en_4) (by simp only [f_X3_enterLeft, if_neg c_1, if_neg c_3, ← hw_4]) hP hD hS dX3_enterLeft_44
    · refine lv_aload_n hx hb dX3_enterLeft_20 rfl (lv_at hl 0 rfl) ?_
      refine lv_dup hx hb dX3_enterLeft_21 rfl ?_
      refine va_get (D := (dC, dI)) (ci := 3) (v := .int cs) (C := RX3) (T := TX3) (N := 7) hx hb hts (by decide +kernel) hown hK hP 0 rfl rfl 6 (by decide) (hts (.fieldLink RX3 34 RX3 "cutShort" "I") (by decide +kernel)) (fun _ h9 => h9) rfl dX3_enterLeft_22 ?_
      refine lv_iconst (v := 1) hx hb dX3_enterLeft_25 (by decide) ?_
      refine lv_iadd hx hb dX3_enterLeft_26 ?_
      refine va_put (D := (dC, dI)) (ci := 3) (v := .int (cs + 1)) (ty := .int) (C := RX3) (T := TX3) (N := 7) hx hb hts (by decide +kernel) tyX3 tyX3_ok nmX3 hown hK hP hD hS 0 rfl rfl 6 (by decide) (hts (.fieldLink RX3 34 RX3 "cutShort" "I") (by decide +kernel)) (fun _ h9 => h9) rfl (by decide +kernel) rfl rfl (Nat.le_of_ble_eq_true rfl) dX3_enterLeft_27 (fun H locs hP hD hS => ?_)
      have hP : va_P (dC, dI) vwCl [(q3, .inr (3, [.ref q3a, .int et, .int sp, .int ho, .int (uw - 1), .int mo, .int (cs + 1)])), (q3a, .inl (cA, 250, .inl en))] H := hP
      have hD : va_D A [(q3, .inr (3, [.ref q3a, .int et, .int sp, .int ho, .int (uw - 1), .int mo, .int (cs + 1)])), (q3a, .inl (cA, 250, .inl en))] := hD
      refine lv_aload_n hx hb dX3_enterLeft_30 rfl (lv_at hl 0 rfl) ?_
      refine lv_sipush (v := 2000) hx hb dX3_enterLeft_31 (by decide) ?_
      refine lv_bipush (v := 100) hx hb dX3_enterLeft_34 (by decide) ?_
      refine lv_iload_n hx hb dX3_enterLeft_36 rfl (lv_at hl 2 rfl) ?_
      refine lv_imul hx hb dX3_enterLeft_37 ?_
      refine lv_iadd hx hb dX3_enterLeft_38 ?_
      refine lv_iload_n hx hb dX3_enterLeft_39 rfl (lv_at hl 1 rfl) ?_
      refine lv_iadd hx hb dX3_enterLeft_40 ?_
      refine kx_wv (wr := []) hP hD hS hA [0, 1] [] rfl rfl (by decide) (by decide) (va_runV (As := [.int ((2000 + (100 * p1)) + p0)]) (rest := []) ⟨hx, hb, hml, hown, hts⟩ (c_X3_enter l dC dI cA q3 q3a H.size et sp ho (uw - 1) mo (cs + 1) en ((2000 + (100 * p1)) + p0) het) (cwV 1 hts gX3_enterLeft_X3_enter rfl rfl rfl (by decide +kernel) ⟨(Nat.le_of_ble_eq_true rfl), (Nat.le_of_ble_eq_true rfl)⟩) (pW hN (hP.sub (ws' := [(q3, .inr (3, [.ref q3a, .int et, .int sp, .int ho, .int (uw - 1), .int mo, .int (cs + 1)])), (q3a, .inl (cA, 250, .inl en))]) [0, 1] rfl) hK (hD.sub (ws' := [(q3, .inr (3, [.ref q3a, .int et, .int sp, .int ho, .int (uw - 1), .int mo, .int (cs + 1)])), (q3a, .inl (cA, 250, .inl en))]) [0, 1] (by decide) rfl) (ci := 3) (q0 := 0) rfl rfl rfl) rfl rfl hl.1 rfl (lv_room (Nat.le_of_ble_eq_true rfl)) dX3_enterLeft_41 ⟨Nat.zero_le _, Nat.zero_le _⟩) (fun u_5 H locs hw_5 hP hD hS => ?_)
      obtain ⟨et_5, sp_5, ho_5, uw_5, mo_5, cs_5, en_5⟩ := u_5
      have hP : va_P (dC, dI) vwCl [(q3, .inr (3, [.ref q3a, .int et_5, .int sp_5, .int ho_5, .int uw_5, .int mo_5, .int cs_5])), (q3a, .inl (cA, 250, .inl en_5))] H := hP
      have hD : va_D A [(q3, .inr (3, [.ref q3a, .int et_5, .int sp_5, .int ho_5, .int uw_5, .int mo_5, .int cs_5])), (q3a, .inl (cA, 250, .inl en_5))] := hD
      exact rt_v hx hb hr hlocks (et_5, sp_5, ho_5, uw_5, mo_5, cs_5, en_5) (by simp only [f_X3_enterLeft, if_neg c_1, if_pos c_3, ← hw_5]) hP hD hS dX3_enterLeft_44
def f_X3_entry (et : Int32) (sp : Int32) (ho : Int32) (uw : Int32) (mo : Int32) (cs : Int32) (en : Nat → Int32) (p0 : Int32) : Int32 := (if (f_X4_isWithin p0 0 ((if 250 < et then 250 else et) - 1)) = 0 then (-1) else (en p0.toNatClampNeg))
set_option maxHeartbeats 4000000 in
set_option maxRecDepth 100000 in
theorem c_X3_entry (l : Launch) (dC : Nat → ClassId) (dI : Nat → Nat → Nat) (cA : ClassId) (q3 q3a : Nat) (et : Int32) (sp : Int32) (ho : Int32) (uw : Int32) (mo : Int32) (cs : Int32) (en : Nat → Int32) (p0 : Int32) (het : 0 ≤ et.toInt) : Met l yX3_entry wsX3_entry ({ frames := 1, cells := 0, slots := 0, locals := 22 }) (pcR (dC, dI) [(q3, .inr (3, [.ref q3a, .int et, .int sp, .int ho, .int uw, .int mo, .int cs])), (q3a, .inl (cA, 250, .inl en))] [(cA, .int)] [.ref q3, .int p0]) (QcRead (f_X3_entry et sp ho uw mo cs en p0)) 0 0 (fun _ => False) := by
  refine Met.ofW (cc := cX3_entry) (maxL := 2) (ret := (some .int)) (by decide) rfl ?_
  intro p e s m args below meth c s₁ B hml hv
  obtain ⟨rfl, hN, hP, hK⟩ := hv
  have hx := B.exec
  have hb := B.bytes
  have hr := B.returns
  have hts := atoms_spec (ws := wsX3_entry) B.pre
  have hown : s.vm.findClass RX3 = some m.cls := findClass_of_methodNamed B.named
  have hlocks := B.notSynchronized
  have hl := lv_entry ([.ref q3, .int p0]) (n := 2) (Nat.le_of_ble_eq_true rfl)
  rw [lg_entry_eq]
  generalize (lg_sl ([.ref q3, .int p0]) ++ List.replicate (2 - (lg_sl ([.ref q3, .int p0])).length) Slot.unset).toArray = ls at hl ⊢
  have hl : lv_has ls 2 [(0, .ref q3), (1, .int p0)] := hl
  refine lv_iload_n hx hb dX3_entry_0 rfl (lv_at hl 1 rfl) ?_
  refine lv_iconst (v := 0) hx hb dX3_entry_1 (by decide) ?_
  refine lv_aload_n hx hb dX3_entry_2 rfl (lv_at hl 0 rfl) ?_
  refine va_get (D := (dC, dI)) (ci := 3) (v := .int et) (C := RX3) (T := TX3) (N := 7) hx hb hts (by decide +kernel) hown hK hP 0 rfl rfl 1 (by decide) (hts (.fieldLink RX3 18 RX3 "entered" "I") (by decide +kernel)) (fun _ h9 => h9) rfl dX3_entry_3 ?_
  refine lv_sipush (v := 250) hx hb dX3_entry_6 (by decide) ?_
  refine va_mmin hx hb (hml.trans hl.1.symm) hown (hts (.methodLink RX3 37 Lib.Math.min.name) (by decide +kernel)) (hts (.static Lib.Math.min.name) (by decide +kernel)) (hts (.initialized "java/lang/Math") (by decide +kernel)) (hts (.code Lib.Math.min.name Lib.Math.min.code 2 (some .int)) (by decide +kernel)) (Nat.le_of_ble_eq_true rfl) (Nat.le_of_ble_eq_true rfl) (Nat.zero_le _) (Nat.zero_le _) dX3_entry_9 ?_
  refine lv_iconst (v := 1) hx hb dX3_entry_12 (by decide) ?_
  refine lv_isub hx hb dX3_entry_13 ?_
  refine kx_read (va_runSN (As := [.int p0, .int 0, .int ((if 250 < et then 250 else et) - 1)]) (rest := []) ⟨hx, hb, hml, hown, hts⟩ (c_X4_isWithin l p0 0 ((if 250 < et then 250 else et) - 1)) ⟨va_cnB 3 hts gX3_entry_X4_isWithin_n43 rfl rfl rfl (hN.at 26 rfl) (hts (.initialized RX4) (by decide +kernel)) (by decide +kernel) ⟨(Nat.le_of_ble_eq_true rfl), (Nat.le_of_ble_eq_true rfl)⟩, (hts (.static yX4_isWithin) (by decide +kernel)), trivial⟩ (pS hN) rfl rfl hl.1 rfl (lv_room (Nat.le_of_ble_eq_true rfl)) dX3_entry_14 ⟨Nat.zero_le _, Nat.zero_le _⟩) ?_
  refine lv_if_eq (tgt := 29) hx hb dX3_entry_17 (by decide) (fun c_1 => ?_) (fun c_1 => ?_)
  · refine lv_iconst (v := (-1)) hx hb dX3_entry_29 (by decide) ?_
    exact rd_i hx hb hr hlocks (by simp only [f_X3_entry, if_pos c_1]) dX3_entry_30
  · refine lv_aload_n hx hb dX3_entry_20 rfl (lv_at hl 0 rfl) ?_
    refine va_get (D := (dC, dI)) (ci := 3) (v := .ref q3a) (C := RX3) (T := TX3) (N := 7) hx hb hts (by decide +kernel) hown hK hP 0 rfl rfl 0 (by decide) (hts (.fieldLink RX3 9 RX3 "entries" "[I") (by decide +kernel)) (fun _ h9 => h9) rfl dX3_entry_21 ?_
    refine lv_iload_n hx hb dX3_entry_24 rfl (lv_at hl 1 rfl) ?_
    refine va_iald hx hb hK hP 1 0 rfl rfl (in_ent het c_1) dX3_entry_25 ?_
    refine lv_goto (tgt := 30) hx hb dX3_entry_26 (by decide) ?_
    exact rd_i hx hb hr hlocks (by simp only [f_X3_entry, if_neg c_1]) dX3_entry_30
end
section
theorem vp_lt {x : Int32} {n : Nat} (h : vp_in x n) : x.toNatClampNeg < n := Nat.not_le.mp fun q => h (Or.inr q)
theorem vp_nI {x : Int32} {n : Nat} (h : vp_in x n) (hn : n < 2 ^ 31) : ∃ j : Nat, j < n ∧ x = nI j ∧ x.toNatClampNeg = j := by
  obtain ⟨j, h1, h2⟩ := vp_in_of h hn
  exact ⟨j, h1, h2, by rw [h2]; exact nI_clamp (by omega)⟩
theorem in_slot {b : Int32} {si : Nat → Int32} (hsi : ∀ b : Nat, b < 40 → 0 ≤ (si b).toInt ∧ (si b).toInt ≤ 12) (hb : vp_in b 40) (h : si b.toNatClampNeg < 12) : vp_in (b * 12 + si b.toNatClampNeg) 480 := by
  obtain ⟨j, h1, h2, h3⟩ := vp_nI hb (by decide)
  rw [h3] at h ⊢
  obtain ⟨h4, h5⟩ := hsi j h1
  rw [Int32.lt_iff_toInt_lt] at h
  have e1 : (12 : Int32).toInt = 12 := by decide
  obtain ⟨k, h6, h7⟩ : ∃ k : Nat, k < 12 ∧ si j = nI k := by
    have : vp_in (si j) 12 := by rw [vp_in_iff]; omega
    exact vp_in_of this (by decide)
  rw [h2, h7, show (12 : Int32) = nI 12 by decide, pk_mul, nI_add]
  exact vp_in_nI (by omega) (by decide)
def f_X0_append (to : Int32) (si : Nat → Int32) (ki : Nat → Int32) (aa : Nat → Int32) (xx : Nat → Int32) (yy : Nat → Int32) (p0 : Int32) (p1 : Int32) (p2 : Int32) (p3 : Int32) (p4 : Int32) : Int32 × Int32 × (Nat → Int32) × (Nat → Int32) × (Nat → Int32) × (Nat → Int32) × (Nat → Int32) := (if (f_X4_isBlock p0) = 0 then ((-2), to, si, ki, aa, xx, yy) else (if 150 ≤ to then ((-3), to, si, ki, aa, xx, yy) else (if (si p0.toNatClampNeg) < 12 then (((upd si p0.toNatClampNeg ((si p0.toNatClampNeg) + 1)) p0.toNatClampNeg), (to + 1), (upd si p0.toNatClampNeg ((si p0.toNatClampNeg) + 1)), (upd ki ((p0 * 12) + (si p0.toNatClampNeg)).toNatClampNeg p1), (upd aa ((p0 * 12) + (si p0.toNatClampNeg)).toNatClampNeg p2), (upd xx ((p0 * 12) + (si p0.toNatClampNeg)).toNatClampNeg p3), (upd yy ((p0 * 12) + (si p0.toNatClampNeg)).toNatClampNeg p4)) else ((-3), to, si, ki, aa, xx, yy))))
set_option maxHeartbeats 4000000 in
set_option maxRecDepth 100000 in
theorem c_X0_append (l : Launch) (dC : Nat → ClassId) (dI : Nat → Nat → Nat) (cA : ClassId) (q0 q0a q0b q0c q0d q0e : Nat) (sz : Nat) (to : Int32) (si : Nat → Int32) (ki : Nat → Int32) (aa : Nat → Int32) (xx : Nat → Int32) (yy : Nat → Int32) (p0 : Int32) (p1 : Int32) (p2 : Int32) (p3 : Int32) (p4 : Int32) (hsi : ∀ b : Nat, b < 40 → 0 ≤ (si b).toInt ∧ (si b).toInt ≤ 12) : Met l yX0_append wsX0_append ({ frames := 2, cells := 0, slots := 0, locals := 42 }) (pcW (dC, dI) [(q0, .inr (0, [.ref q0a, .ref q0b, .ref q0c, .ref q0d, .ref q0e, .int to])), (q0a, .inl (cA, 40, .inl si)), (q0b, .inl (cA, 480, .inl ki)), (q0c, .inl (cA, 480, .inl aa)), (q0d, .inl (cA, 480, .inl xx)), (q0e, .inl (cA, 480, .inl yy))] [(cA, .int)] sz [.ref q0, .int p0, .int p1, .int p2, .int p3, .int p4]) (QWi (dC, dI) (f_X0_append to si ki aa xx yy p0 p1 p2 p3 p4) (wd_pr cA q0 q0a q0b q0c q0d q0e) (va_A [(q0, .inr (0, [.ref q0a, .ref q0b, .ref q0c, .ref q0d, .ref q0e, .int to])), (q0a, .inl (cA, 40, .inl si)), (q0b, .inl (cA, 480, .inl ki)), (q0c, .inl (cA, 480, .inl aa)), (q0d, .inl (cA, 480, .inl xx)), (q0e, .inl (cA, 480, .inl yy))] sz)) 0 0 (va_A [(q0, .inr (0, [.ref q0a, .ref q0b, .ref q0c, .ref q0d, .ref q0e, .int to])), (q0a, .inl (cA, 40, .inl si)), (q0b, .inl (cA, 480, .inl ki)), (q0c, .inl (cA, 480, .inl aa)), (q0d, .inl (cA, 480, .inl xx)), (q0e, .inl (cA, 480, .inl yy))] sz) := by
  refine Met.ofW (cc := cX0_append) (maxL := 7) (ret := (some .int)) (by decide) rfl ?_
  intro p e s m args below meth c s₁ B hml hv
  obtain ⟨rfl, hsz, hN, hP, hK, hD0⟩ := hv
  have hx := B.exec
  have hb := B.bytes
  have hr := B.returns
  have hts := atoms_spec (ws := wsX0_append) B.pre
  have hown : s.vm.findClass RX0 = some m.cls := findClass_of_methodNamed B.named
  have hlocks := B.notSynchronized
  subst hsz
  have hD := hD0.self (sz := s.heap.size)
  generalize hAe : va_A [(q0, .inr (0, [.ref q0a, .ref q0b, .ref q0c, .ref q0d, .ref q0e, .int to])), (q0a, .inl (cA, 40, .inl si)), (q0b, .inl (cA, 480, .inl ki)), (q0c, .inl (cA, 480, .inl aa)), (q0d, .inl (cA, 480, .inl xx)), (q0e, .inl (cA, 480, .inl yy))] s.heap.size = A at hD ⊢
  have hA : ∀ q : Nat, s.heap.size ≤ q → A q := fun q h => by rw [← hAe]; exact Or.inr h
  have hS : va_S A s.heap s.heap [] := va_S.rf
  have hl := lv_entry ([.ref q0, .int p0, .int p1, .int p2, .int p3, .int p4]) (n := 7) (Nat.le_of_ble_eq_true rfl)
  rw [lg_entry_eq]
  generalize (lg_sl ([.ref q0, .int p0, .int p1, .int p2, .int p3, .int p4]) ++ List.replicate (7 - (lg_sl ([.ref q0, .int p0, .int p1, .int p2, .int p3, .int p4])).length) Slot.unset).toArray = ls at hl ⊢
  have hl : lv_has ls 7 [(0, .ref q0), (1, .int p0), (2, .int p1), (3, .int p2), (4, .int p3), (5, .int p4)] := hl
  refine lv_iload_n hx hb dX0_append_0 rfl (lv_at hl 1 rfl) ?_
  refine kx_read (va_runSN (As := [.int p0]) (rest := []) ⟨hx, hb, hml, hown, hts⟩ (c_X4_isBlock l p0) ⟨va_cnB 1 hts gX0_append_X4_isBlock_n31 rfl rfl rfl (hN.at 9 rfl) (hts (.initialized RX4) (by decide +kernel)) (by decide +kernel) ⟨(Nat.le_of_ble_eq_true rfl), (Nat.le_of_ble_eq_true rfl)⟩, (hts (.static yX4_isBlock) (by decide +kernel)), trivial⟩ (pS hN) rfl rfl hl.1 rfl (lv_room (Nat.le_of_ble_eq_true rfl)) dX0_append_1 ⟨Nat.zero_le _, Nat.zero_le _⟩) ?_
  refine lv_if_ne (tgt := 10) hx hb dX0_append_4 (by decide) (fun c_1 => ?_) (fun c_1 => ?_)
  · refine lv_aload_n hx hb dX0_append_10 rfl (lv_at hl 0 rfl) ?_
    refine va_get (D := (dC, dI)) (ci := 0) (v := .int to) (C := RX0) (T := TX0) (N := 6) hx hb hts (by decide +kernel) hown hK hP 0 rfl rfl 5 (by decide) (hts (.fieldLink RX0 27 RX0 "total" "I") (by decide +kernel)) (fun _ h9 => h9) rfl dX0_append_11 ?_
    refine lv_sipush (v := 150) hx hb dX0_append_14 (by decide) ?_
    refine lv_icmp_ge (tgt := 31) hx hb dX0_append_17 (by decide) (fun c_2 => ?_) (fun c_2 => ?_)
    · refine lv_bipush (v := (-3)) hx hb dX0_append_31 (by decide) ?_
      exact rt_i hx hb hr hlocks (to, si, ki, aa, xx, yy) (by simp only [f_X0_append, if_neg c_1, if_pos c_2]) hP hD hS dX0_append_33
    · refine lv_aload_n hx hb dX0_append_20 rfl (lv_at hl 0 rfl) ?_
      refine va_get (D := (dC, dI)) (ci := 0) (v := .ref q0a) (C := RX0) (T := TX0) (N := 6) hx hb hts (by decide +kernel) hown hK hP 0 rfl rfl 0 (by decide) (hts (.fieldLink RX0 9 RX0 "sizes" "[I") (by decide +kernel)) (fun _ h9 => h9) rfl dX0_append_21 ?_
      refine lv_iload_n hx hb dX0_append_24 rfl (lv_at hl 1 rfl) ?_
      refine va_iald hx hb hK hP 1 0 rfl rfl (in_block c_1) dX0_append_25 ?_
      refine lv_bipush (v := 12) hx hb dX0_append_26 (by decide) ?_
      refine lv_icmp_lt (tgt := 34) hx hb dX0_append_28 (by decide) (fun c_3 => ?_) (fun c_3 => ?_)
      · refine lv_iload_n hx hb dX0_append_34 rfl (lv_at hl 1 rfl) ?_
        refine lv_bipush (v := 12) hx hb dX0_append_35 (by decide) ?_
        refine lv_imul hx hb dX0_append_37 ?_
        refine lv_aload_n hx hb dX0_append_38 rfl (lv_at hl 0 rfl) ?_
        refine va_get (D := (dC, dI)) (ci := 0) (v := .ref q0a) (C := RX0) (T := TX0) (N := 6) hx hb hts (by decide +kernel) hown hK hP 0 rfl rfl 0 (by decide) (hts (.fieldLink RX0 9 RX0 "sizes" "[I") (by decide +kernel)) (fun _ h9 => h9) rfl dX0_append_39 ?_
        refine lv_iload_n hx hb dX0_append_42 rfl (lv_at hl 1 rfl) ?_
        refine va_iald hx hb hK hP 1 0 rfl rfl (in_block c_1) dX0_append_43 ?_
        refine lv_iadd hx hb dX0_append_44 ?_
        refine lv_istore (lv' := [(6, .int ((p0 * 12) + (si p0.toNatClampNeg))), (0, .ref q0), (1, .int p0), (2, .int p1), (3, .int p2), (4, .int p3), (5, .int p4)]) hx hb dX0_append_45 hl (by decide) rfl (fun ls hl => ?_)
        refine lv_aload_n hx hb dX0_append_47 rfl (lv_at hl 1 rfl) ?_
        refine va_get (D := (dC, dI)) (ci := 0) (v := .ref q0b) (C := RX0) (T := TX0) (N := 6) hx hb hts (by decide +kernel) hown hK hP 0 rfl rfl 1 (by decide) (hts (.fieldLink RX0 15 RX0 "kinds" "[I") (by decide +kernel)) (fun _ h9 => h9) rfl dX0_append_48 ?_
        refine lv_iload hx hb dX0_append_51 (lv_at hl 0 rfl) ?_
        refine lv_iload_n hx hb dX0_append_53 rfl (lv_at hl 3 rfl) ?_
        refine va_iast hx hb hK hP hD hS 2 0 rfl rfl (in_slot hsi (in_block c_1) c_3) dX0_append_54 (fun H locs hP hD hS => ?_)
        have hP : va_P (dC, dI) vwCl [(q0, .inr (0, [.ref q0a, .ref q0b, .ref q0c, .ref q0d, .ref q0e, .int to])), (q0a, .inl (cA, 40, .inl si)), (q0b, .inl (cA, 480, .inl (upd ki ((p0 * 12) + (si p0.toNatClampNeg)).toNatClampNeg p1))), (q0c, .inl (cA, 480, .inl aa)), (q0d, .inl (cA, 480, .inl xx)), (q0e, .inl (cA, 480, .inl yy))] H := hP
        have hD : va_D A [(q0, .inr (0, [.ref q0a, .ref q0b, .ref q0c, .ref q0d, .ref q0e, .int to])), (q0a, .inl (cA, 40, .inl si)), (q0b, .inl (cA, 480, .inl (upd ki ((p0 * 12) + (si p0.toNatClampNeg)).toNatClampNeg p1))), (q0c, .inl (cA, 480, .inl aa)), (q0d, .inl (cA, 480, .inl xx)), (q0e, .inl (cA, 480, .inl yy))] := hD
        refine lv_aload_n hx hb dX0_append_55 rfl (lv_at hl 1 rfl) ?_
        refine va_get (D := (dC, dI)) (ci := 0) (v := .ref q0c) (C := RX0) (T := TX0) (N := 6) hx hb hts (by decide +kernel) hown hK hP 0 rfl rfl 2 (by decide) (hts (.fieldLink RX0 18 RX0 "as" "[I") (by decide +kernel)) (fun _ h9 => h9) rfl dX0_append_56 ?_
        refine lv_iload hx hb dX0_append_59 (lv_at hl 0 rfl) ?_
        refine lv_iload_n hx hb dX0_append_61 rfl (lv_at hl 4 rfl) ?_
        refine va_iast hx hb hK hP hD hS 3 0 rfl rfl (in_slot hsi (in_block c_1) c_3) dX0_append_62 (fun H locs hP hD hS => ?_)
        have hP : va_P (dC, dI) vwCl [(q0, .inr (0, [.ref q0a, .ref q0b, .ref q0c, .ref q0d, .ref q0e, .int to])), (q0a, .inl (cA, 40, .inl si)), (q0b, .inl (cA, 480, .inl (upd ki ((p0 * 12) + (si p0.toNatClampNeg)).toNatClampNeg p1))), (q0c, .inl (cA, 480, .inl (upd aa ((p0 * 12) + (si p0.toNatClampNeg)).toNatClampNeg p2))), (q0d, .inl (cA, 480, .inl xx)), (q0e, .inl (cA, 480, .inl yy))] H := hP
        have hD : va_D A [(q0, .inr (0, [.ref q0a, .ref q0b, .ref q0c, .ref q0d, .ref q0e, .int to])), (q0a, .inl (cA, 40, .inl si)), (q0b, .inl (cA, 480, .inl (upd ki ((p0 * 12) + (si p0.toNatClampNeg)).toNatClampNeg p1))), (q0c, .inl (cA, 480, .inl (upd aa ((p0 * 12) + (si p0.toNatClampNeg)).toNatClampNeg p2))), (q0d, .inl (cA, 480, .inl xx)), (q0e, .inl (cA, 480, .inl yy))] := hD
        refine lv_aload_n hx hb dX0_append_63 rfl (lv_at hl 1 rfl) ?_
        refine va_get (D := (dC, dI)) (ci := 0) (v := .ref q0d) (C := RX0) (T := TX0) (N := 6) hx hb hts (by decide +kernel) hown hK hP 0 rfl rfl 3 (by decide) (hts (.fieldLink RX0 21 RX0 "xs" "[I") (by decide +kernel)) (fun _ h9 => h9) rfl dX0_append_64 ?_
        refine lv_iload hx hb dX0_append_67 (lv_at hl 0 rfl) ?_
        refine lv_iload hx hb dX0_append_69 (lv_at hl 5 rfl) ?_
        refine va_iast hx hb hK hP hD hS 4 0 rfl rfl (in_slot hsi (in_block c_1) c_3) dX0_append_71 (fun H locs hP hD hS => ?_)
        have hP : va_P (dC, dI) vwCl [(q0, .inr (0, [.ref q0a, .ref q0b, .ref q0c, .ref q0d, .ref q0e, .int to])), (q0a, .inl (cA, 40, .inl si)), (q0b, .inl (cA, 480, .inl (upd ki ((p0 * 12) + (si p0.toNatClampNeg)).toNatClampNeg p1))), (q0c, .inl (cA, 480, .inl (upd aa ((p0 * 12) + (si p0.toNatClampNeg)).toNatClampNeg p2))), (q0d, .inl (cA, 480, .inl (upd xx ((p0 * 12) + (si p0.toNatClampNeg)).toNatClampNeg p3))), (q0e, .inl (cA, 480, .inl yy))] H := hP
        have hD : va_D A [(q0, .inr (0, [.ref q0a, .ref q0b, .ref q0c, .ref q0d, .ref q0e, .int to])), (q0a, .inl (cA, 40, .inl si)), (q0b, .inl (cA, 480, .inl (upd ki ((p0 * 12) + (si p0.toNatClampNeg)).toNatClampNeg p1))), (q0c, .inl (cA, 480, .inl (upd aa ((p0 * 12) + (si p0.toNatClampNeg)).toNatClampNeg p2))), (q0d, .inl (cA, 480, .inl (upd xx ((p0 * 12) + (si p0.toNatClampNeg)).toNatClampNeg p3))), (q0e, .inl (cA, 480, .inl yy))] := hD
        refine lv_aload_n hx hb dX0_append_72 rfl (lv_at hl 1 rfl) ?_
        refine va_get (D := (dC, dI)) (ci := 0) (v := .ref q0e) (C := RX0) (T := TX0) (N := 6) hx hb hts (by decide +kernel) hown hK hP 0 rfl rfl 4 (by decide) (hts (.fieldLink RX0 24 RX0 "ys" "[I") (by decide +kernel)) (fun _ h9 => h9) rfl dX0_append_73 ?_
        refine lv_iload hx hb dX0_append_76 (lv_at hl 0 rfl) ?_
        refine lv_iload hx hb dX0_append_78 (lv_at hl 6 rfl) ?_
        refine va_iast hx hb hK hP hD hS 5 0 rfl rfl (in_slot hsi (in_block c_1) c_3) dX0_append_80 (fun H locs hP hD hS => ?_)
        have hP : va_P (dC, dI) vwCl [(q0, .inr (0, [.ref q0a, .ref q0b, .ref q0c, .ref q0d, .ref q0e, .int to])), (q0a, .inl (cA, 40, .inl si)), (q0b, .inl (cA, 480, .inl (upd ki ((p0 * 12) + (si p0.toNatClampNeg)).toNatClampNeg p1))), (q0c, .inl (cA, 480, .inl (upd aa ((p0 * 12) + (si p0.toNatClampNeg)).toNatClampNeg p2))), (q0d, .inl (cA, 480, .inl (upd xx ((p0 * 12) + (si p0.toNatClampNeg)).toNatClampNeg p3))), (q0e, .inl (cA, 480, .inl (upd yy ((p0 * 12) + (si p0.toNatClampNeg)).toNatClampNeg p4)))] H := hP
        have hD : va_D A [(q0, .inr (0, [.ref q0a, .ref q0b, .ref q0c, .ref q0d, .ref q0e, .int to])), (q0a, .inl (cA, 40, .inl si)), (q0b, .inl (cA, 480, .inl (upd ki ((p0 * 12) + (si p0.toNatClampNeg)).toNatClampNeg p1))), (q0c, .inl (cA, 480, .inl (upd aa ((p0 * 12) + (si p0.toNatClampNeg)).toNatClampNeg p2))), (q0d, .inl (cA, 480, .inl (upd xx ((p0 * 12) + (si p0.toNatClampNeg)).toNatClampNeg p3))), (q0e, .inl (cA, 480, .inl (upd yy ((p0 * 12) + (si p0.toNatClampNeg)).toNatClampNeg p4)))] := hD
        refine lv_aload_n hx hb dX0_append_81 rfl (lv_at hl 1 rfl) ?_
        refine va_get (D := (dC, dI)) (ci := 0) (v := .ref q0a) (C := RX0) (T := TX0) (N := 6) hx hb hts (by decide +kernel) hown hK hP 0 rfl rfl 0 (by decide) (hts (.fieldLink RX0 9 RX0 "sizes" "[I") (by decide +kernel)) (fun _ h9 => h9) rfl dX0_append_82 ?_
        refine lv_iload_n hx hb dX0_append_85 rfl (lv_at hl 2 rfl) ?_
        refine lv_dup2_11 hx hb dX0_append_86 rfl rfl ?_
        refine va_iald hx hb hK hP 1 0 rfl rfl (in_block c_1) dX0_append_87 ?_
        refine lv_iconst (v := 1) hx hb dX0_append_88 (by decide) ?_
        refine lv_iadd hx hb dX0_append_89 ?_
        refine va_iast hx hb hK hP hD hS 1 0 rfl rfl (in_block c_1) dX0_append_90 (fun H locs hP hD hS => ?_)
        have hP : va_P (dC, dI) vwCl [(q0, .inr (0, [.ref q0a, .ref q0b, .ref q0c, .ref q0d, .ref q0e, .int to])), (q0a, .inl (cA, 40, .inl (upd si p0.toNatClampNeg ((si p0.toNatClampNeg) + 1)))), (q0b, .inl (cA, 480, .inl (upd ki ((p0 * 12) + (si p0.toNatClampNeg)).toNatClampNeg p1))), (q0c, .inl (cA, 480, .inl (upd aa ((p0 * 12) + (si p0.toNatClampNeg)).toNatClampNeg p2))), (q0d, .inl (cA, 480, .inl (upd xx ((p0 * 12) + (si p0.toNatClampNeg)).toNatClampNeg p3))), (q0e, .inl (cA, 480, .inl (upd yy ((p0 * 12) + (si p0.toNatClampNeg)).toNatClampNeg p4)))] H := hP
        have hD : va_D A [(q0, .inr (0, [.ref q0a, .ref q0b, .ref q0c, .ref q0d, .ref q0e, .int to])), (q0a, .inl (cA, 40, .inl (upd si p0.toNatClampNeg ((si p0.toNatClampNeg) + 1)))), (q0b, .inl (cA, 480, .inl (upd ki ((p0 * 12) + (si p0.toNatClampNeg)).toNatClampNeg p1))), (q0c, .inl (cA, 480, .inl (upd aa ((p0 * 12) + (si p0.toNatClampNeg)).toNatClampNeg p2))), (q0d, .inl (cA, 480, .inl (upd xx ((p0 * 12) + (si p0.toNatClampNeg)).toNatClampNeg p3))), (q0e, .inl (cA, 480, .inl (upd yy ((p0 * 12) + (si p0.toNatClampNeg)).toNatClampNeg p4)))] := hD
        refine lv_aload_n hx hb dX0_append_91 rfl (lv_at hl 1 rfl) ?_
        refine lv_dup hx hb dX0_append_92 rfl ?_
        refine va_get (D := (dC, dI)) (ci := 0) (v := .int to) (C := RX0) (T := TX0) (N := 6) hx hb hts (by decide +kernel) hown hK hP 0 rfl rfl 5 (by decide) (hts (.fieldLink RX0 27 RX0 "total" "I") (by decide +kernel)) (fun _ h9 => h9) rfl dX0_append_93 ?_
        refine lv_iconst (v := 1) hx hb dX0_append_96 (by decide) ?_
        refine lv_iadd hx hb dX0_append_97 ?_
        refine va_put (D := (dC, dI)) (ci := 0) (v := .int (to + 1)) (ty := .int) (C := RX0) (T := TX0) (N := 6) hx hb hts (by decide +kernel) tyX0 tyX0_ok nmX0 hown hK hP hD hS 0 rfl rfl 5 (by decide) (hts (.fieldLink RX0 27 RX0 "total" "I") (by decide +kernel)) (fun _ h9 => h9) rfl (by decide +kernel) rfl rfl (Nat.le_of_ble_eq_true rfl) dX0_append_98 (fun H locs hP hD hS => ?_)
        have hP : va_P (dC, dI) vwCl [(q0, .inr (0, [.ref q0a, .ref q0b, .ref q0c, .ref q0d, .ref q0e, .int (to + 1)])), (q0a, .inl (cA, 40, .inl (upd si p0.toNatClampNeg ((si p0.toNatClampNeg) + 1)))), (q0b, .inl (cA, 480, .inl (upd ki ((p0 * 12) + (si p0.toNatClampNeg)).toNatClampNeg p1))), (q0c, .inl (cA, 480, .inl (upd aa ((p0 * 12) + (si p0.toNatClampNeg)).toNatClampNeg p2))), (q0d, .inl (cA, 480, .inl (upd xx ((p0 * 12) + (si p0.toNatClampNeg)).toNatClampNeg p3))), (q0e, .inl (cA, 480, .inl (upd yy ((p0 * 12) + (si p0.toNatClampNeg)).toNatClampNeg p4)))] H := hP
        have hD : va_D A [(q0, .inr (0, [.ref q0a, .ref q0b, .ref q0c, .ref q0d, .ref q0e, .int (to + 1)])), (q0a, .inl (cA, 40, .inl (upd si p0.toNatClampNeg ((si p0.toNatClampNeg) + 1)))), (q0b, .inl (cA, 480, .inl (upd ki ((p0 * 12) + (si p0.toNatClampNeg)).toNatClampNeg p1))), (q0c, .inl (cA, 480, .inl (upd aa ((p0 * 12) + (si p0.toNatClampNeg)).toNatClampNeg p2))), (q0d, .inl (cA, 480, .inl (upd xx ((p0 * 12) + (si p0.toNatClampNeg)).toNatClampNeg p3))), (q0e, .inl (cA, 480, .inl (upd yy ((p0 * 12) + (si p0.toNatClampNeg)).toNatClampNeg p4)))] := hD
        refine lv_aload_n hx hb dX0_append_101 rfl (lv_at hl 1 rfl) ?_
        refine va_get (D := (dC, dI)) (ci := 0) (v := .ref q0a) (C := RX0) (T := TX0) (N := 6) hx hb hts (by decide +kernel) hown hK hP 0 rfl rfl 0 (by decide) (hts (.fieldLink RX0 9 RX0 "sizes" "[I") (by decide +kernel)) (fun _ h9 => h9) rfl dX0_append_102 ?_
        refine lv_iload_n hx hb dX0_append_105 rfl (lv_at hl 2 rfl) ?_
        refine va_iald hx hb hK hP 1 0 rfl rfl (in_block c_1) dX0_append_106 ?_
        exact rt_i hx hb hr hlocks ((to + 1), (upd si p0.toNatClampNeg ((si p0.toNatClampNeg) + 1)), (upd ki ((p0 * 12) + (si p0.toNatClampNeg)).toNatClampNeg p1), (upd aa ((p0 * 12) + (si p0.toNatClampNeg)).toNatClampNeg p2), (upd xx ((p0 * 12) + (si p0.toNatClampNeg)).toNatClampNeg p3), (upd yy ((p0 * 12) + (si p0.toNatClampNeg)).toNatClampNeg p4)) (by simp only [f_X0_append, if_neg c_1, if_neg c_2, if_pos c_3]) hP hD hS dX0_append_107
      · refine lv_bipush (v := (-3)) hx hb dX0_append_31 (by decide) ?_
        exact rt_i hx hb hr hlocks (to, si, ki, aa, xx, yy) (by simp only [f_X0_append, if_neg c_1, if_neg c_2, if_neg c_3]) hP hD hS dX0_append_33
  · refine lv_bipush (v := (-2)) hx hb dX0_append_7 (by decide) ?_
    exact rt_i hx hb hr hlocks (to, si, ki, aa, xx, yy) (by simp only [f_X0_append, if_pos c_1]) hP hD hS dX0_append_9
def f_X0_empty (to : Int32) (si : Nat → Int32) (ki : Nat → Int32) (aa : Nat → Int32) (xx : Nat → Int32) (yy : Nat → Int32) (p0 : Int32) : Int32 × Int32 × (Nat → Int32) × (Nat → Int32) × (Nat → Int32) × (Nat → Int32) × (Nat → Int32) := (if (f_X4_isBlock p0) = 0 then ((-2), to, si, ki, aa, xx, yy) else ((si p0.toNatClampNeg), (to - (si p0.toNatClampNeg)), (upd si p0.toNatClampNeg 0), ki, aa, xx, yy))
set_option maxHeartbeats 4000000 in
set_option maxRecDepth 100000 in
theorem c_X0_empty (l : Launch) (dC : Nat → ClassId) (dI : Nat → Nat → Nat) (cA : ClassId) (q0 q0a q0b q0c q0d q0e : Nat) (sz : Nat) (to : Int32) (si : Nat → Int32) (ki : Nat → Int32) (aa : Nat → Int32) (xx : Nat → Int32) (yy : Nat → Int32) (p0 : Int32) : Met l yX0_empty wsX0_empty ({ frames := 2, cells := 0, slots := 0, locals := 42 }) (pcW (dC, dI) [(q0, .inr (0, [.ref q0a, .ref q0b, .ref q0c, .ref q0d, .ref q0e, .int to])), (q0a, .inl (cA, 40, .inl si)), (q0b, .inl (cA, 480, .inl ki)), (q0c, .inl (cA, 480, .inl aa)), (q0d, .inl (cA, 480, .inl xx)), (q0e, .inl (cA, 480, .inl yy))] [(cA, .int)] sz [.ref q0, .int p0]) (QWi (dC, dI) (f_X0_empty to si ki aa xx yy p0) (wd_pr cA q0 q0a q0b q0c q0d q0e) (va_A [(q0, .inr (0, [.ref q0a, .ref q0b, .ref q0c, .ref q0d, .ref q0e, .int to])), (q0a, .inl (cA, 40, .inl si)), (q0b, .inl (cA, 480, .inl ki)), (q0c, .inl (cA, 480, .inl aa)), (q0d, .inl (cA, 480, .inl xx)), (q0e, .inl (cA, 480, .inl yy))] sz)) 0 0 (va_A [(q0, .inr (0, [.ref q0a, .ref q0b, .ref q0c, .ref q0d, .ref q0e, .int to])), (q0a, .inl (cA, 40, .inl si)), (q0b, .inl (cA, 480, .inl ki)), (q0c, .inl (cA, 480, .inl aa)), (q0d, .inl (cA, 480, .inl xx)), (q0e, .inl (cA, 480, .inl yy))] sz) := by
  refine Met.ofW (cc := cX0_empty) (maxL := 3) (ret := (some .int)) (by decide) rfl ?_
  intro p e s m args below meth c s₁ B hml hv
  obtain ⟨rfl, hsz, hN, hP, hK, hD0⟩ := hv
  have hx := B.exec
  have hb := B.bytes
  have hr := B.returns
  have hts := atoms_spec (ws := wsX0_empty) B.pre
  have hown : s.vm.findClass RX0 = some m.cls := findClass_of_methodNamed B.named
  have hlocks := B.notSynchronized
  subst hsz
  have hD := hD0.self (sz := s.heap.size)
  generalize hAe : va_A [(q0, .inr (0, [.ref q0a, .ref q0b, .ref q0c, .ref q0d, .ref q0e, .int to])), (q0a, .inl (cA, 40, .inl si)), (q0b, .inl (cA, 480, .inl ki)), (q0c, .inl (cA, 480, .inl aa)), (q0d, .inl (cA, 480, .inl xx)), (q0e, .inl (cA, 480, .inl yy))] s.heap.size = A at hD ⊢
  have hA : ∀ q : Nat, s.heap.size ≤ q → A q := fun q h => by rw [← hAe]; exact Or.inr h
  have hS : va_S A s.heap s.heap [] := va_S.rf
  have hl := lv_entry ([.ref q0, .int p0]) (n := 3) (Nat.le_of_ble_eq_true rfl)
  rw [lg_entry_eq]
  generalize (lg_sl ([.ref q0, .int p0]) ++ List.replicate (3 - (lg_sl ([.ref q0, .int p0])).length) Slot.unset).toArray = ls at hl ⊢
  have hl : lv_has ls 3 [(0, .ref q0), (1, .int p0)] := hl
  refine lv_iload_n hx hb dX0_empty_0 rfl (lv_at hl 1 rfl) ?_
  refine kx_read (va_runSN (As := [.int p0]) (rest := []) ⟨hx, hb, hml, hown, hts⟩ (c_X4_isBlock l p0) ⟨va_cnB 1 hts gX0_empty_X4_isBlock_n31 rfl rfl rfl (hN.at 9 rfl) (hts (.initialized RX4) (by decide +kernel)) (by decide +kernel) ⟨(Nat.le_of_ble_eq_true rfl), (Nat.le_of_ble_eq_true rfl)⟩, (hts (.static yX4_isBlock) (by decide +kernel)), trivial⟩ (pS hN) rfl rfl hl.1 rfl (lv_room (Nat.le_of_ble_eq_true rfl)) dX0_empty_1 ⟨Nat.zero_le _, Nat.zero_le _⟩) ?_
  refine lv_if_ne (tgt := 10) hx hb dX0_empty_4 (by decide) (fun c_1 => ?_) (fun c_1 => ?_)
  · refine lv_aload_n hx hb dX0_empty_10 rfl (lv_at hl 0 rfl) ?_
    refine va_get (D := (dC, dI)) (ci := 0) (v := .ref q0a) (C := RX0) (T := TX0) (N := 6) hx hb hts (by decide +kernel) hown hK hP 0 rfl rfl 0 (by decide) (hts (.fieldLink RX0 9 RX0 "sizes" "[I") (by decide +kernel)) (fun _ h9 => h9) rfl dX0_empty_11 ?_
    refine lv_iload_n hx hb dX0_empty_14 rfl (lv_at hl 1 rfl) ?_
    refine va_iald hx hb hK hP 1 0 rfl rfl (in_block c_1) dX0_empty_15 ?_
    refine lv_istore_n (lv' := [(2, .int (si p0.toNatClampNeg)), (0, .ref q0), (1, .int p0)]) hx hb dX0_empty_16 rfl hl (by decide) rfl (fun ls hl => ?_)
    refine lv_aload_n hx hb dX0_empty_17 rfl (lv_at hl 1 rfl) ?_
    refine va_get (D := (dC, dI)) (ci := 0) (v := .ref q0a) (C := RX0) (T := TX0) (N := 6) hx hb hts (by decide +kernel) hown hK hP 0 rfl rfl 0 (by decide) (hts (.fieldLink RX0 9 RX0 "sizes" "[I") (by decide +kernel)) (fun _ h9 => h9) rfl dX0_empty_18 ?_
    refine lv_iload_n hx hb dX0_empty_21 rfl (lv_at hl 2 rfl) ?_
    refine lv_iconst (v := 0) hx hb dX0_empty_22 (by decide) ?_
    refine va_iast hx hb hK hP hD hS 1 0 rfl rfl (in_block c_1) dX0_empty_23 (fun H locs hP hD hS => ?_)
    have hP : va_P (dC, dI) vwCl [(q0, .inr (0, [.ref q0a, .ref q0b, .ref q0c, .ref q0d, .ref q0e, .int to])), (q0a, .inl (cA, 40, .inl (upd si p0.toNatClampNeg 0))), (q0b, .inl (cA, 480, .inl ki)), (q0c, .inl (cA, 480, .inl aa)), (q0d, .inl (cA, 480, .inl xx)), (q0e, .inl (cA, 480, .inl yy))] H := hP
    have hD : va_D A [(q0, .inr (0, [.ref q0a, .ref q0b, .ref q0c, .ref q0d, .ref q0e, .int to])), (q0a, .inl (cA, 40, .inl (upd si p0.toNatClampNeg 0))), (q0b, .inl (cA, 480, .inl ki)), (q0c, .inl (cA, 480, .inl aa)), (q0d, .inl (cA, 480, .inl xx)), (q0e, .inl (cA, 480, .inl yy))] := hD
    refine lv_aload_n hx hb dX0_empty_24 rfl (lv_at hl 1 rfl) ?_
    refine lv_dup hx hb dX0_empty_25 rfl ?_
    refine va_get (D := (dC, dI)) (ci := 0) (v := .int to) (C := RX0) (T := TX0) (N := 6) hx hb hts (by decide +kernel) hown hK hP 0 rfl rfl 5 (by decide) (hts (.fieldLink RX0 27 RX0 "total" "I") (by decide +kernel)) (fun _ h9 => h9) rfl dX0_empty_26 ?_
    refine lv_iload_n hx hb dX0_empty_29 rfl (lv_at hl 0 rfl) ?_
    refine lv_isub hx hb dX0_empty_30 ?_
    refine va_put (D := (dC, dI)) (ci := 0) (v := .int (to - (si p0.toNatClampNeg))) (ty := .int) (C := RX0) (T := TX0) (N := 6) hx hb hts (by decide +kernel) tyX0 tyX0_ok nmX0 hown hK hP hD hS 0 rfl rfl 5 (by decide) (hts (.fieldLink RX0 27 RX0 "total" "I") (by decide +kernel)) (fun _ h9 => h9) rfl (by decide +kernel) rfl rfl (Nat.le_of_ble_eq_true rfl) dX0_empty_31 (fun H locs hP hD hS => ?_)
    have hP : va_P (dC, dI) vwCl [(q0, .inr (0, [.ref q0a, .ref q0b, .ref q0c, .ref q0d, .ref q0e, .int (to - (si p0.toNatClampNeg))])), (q0a, .inl (cA, 40, .inl (upd si p0.toNatClampNeg 0))), (q0b, .inl (cA, 480, .inl ki)), (q0c, .inl (cA, 480, .inl aa)), (q0d, .inl (cA, 480, .inl xx)), (q0e, .inl (cA, 480, .inl yy))] H := hP
    have hD : va_D A [(q0, .inr (0, [.ref q0a, .ref q0b, .ref q0c, .ref q0d, .ref q0e, .int (to - (si p0.toNatClampNeg))])), (q0a, .inl (cA, 40, .inl (upd si p0.toNatClampNeg 0))), (q0b, .inl (cA, 480, .inl ki)), (q0c, .inl (cA, 480, .inl aa)), (q0d, .inl (cA, 480, .inl xx)), (q0e, .inl (cA, 480, .inl yy))] := hD
    refine lv_iload_n hx hb dX0_empty_34 rfl (lv_at hl 0 rfl) ?_
    exact rt_i hx hb hr hlocks ((to - (si p0.toNatClampNeg)), (upd si p0.toNatClampNeg 0), ki, aa, xx, yy) (by simp only [f_X0_empty, if_neg c_1]) hP hD hS dX0_empty_35
  · refine lv_bipush (v := (-2)) hx hb dX0_empty_7 (by decide) ?_
    exact rt_i hx hb hr hlocks (to, si, ki, aa, xx, yy) (by simp only [f_X0_empty, if_pos c_1]) hP hD hS dX0_empty_9
end
section
def f_X5_in (p0 : Int32) (p1 : Int32) (p2 : Int32) : Int32 := (if p0 < p1 then 0 else (if p2 < p0 then 0 else 1))
theorem z_X5_in (p0 p1 p2 : Int32) : f_X5_in p0 p1 p2 = 0 ∨ f_X5_in p0 p1 p2 = 1 := by
  unfold f_X5_in; repeat' split
  all_goals simp
set_option maxHeartbeats 4000000 in
set_option maxRecDepth 100000 in
theorem c_X5_in (l : Launch) (p0 : Int32) (p1 : Int32) (p2 : Int32) : Met l yX5_in wsX5_in ({ frames := 0, cells := 0, slots := 0, locals := 0 }) (va_Pc [.int p0, .int p1, .int p2] NW) (QcRead (f_X5_in p0 p1 p2)) 0 0 (fun _ => False) := by
  refine Met.ofW (cc := cX5_in) (maxL := 3) (ret := (some .boolean)) (by decide) rfl ?_
  intro p e s m args below meth c s₁ B hml hv
  obtain ⟨rfl, hN⟩ := hv
  have hx := B.exec
  have hb := B.bytes
  have hr := B.returns
  have hts := atoms_spec (ws := wsX5_in) B.pre
  have hown : s.vm.findClass RX5 = some m.cls := findClass_of_methodNamed B.named
  have hlocks := B.notSynchronized
  have hl := lv_entry ([.int p0, .int p1, .int p2]) (n := 3) (Nat.le_of_ble_eq_true rfl)
  rw [lg_entry_eq]
  generalize (lg_sl ([.int p0, .int p1, .int p2]) ++ List.replicate (3 - (lg_sl ([.int p0, .int p1, .int p2])).length) Slot.unset).toArray = ls at hl ⊢
  have hl : lv_has ls 3 [(0, .int p0), (1, .int p1), (2, .int p2)] := hl
  refine lv_iload_n hx hb dX5_in_0 rfl (lv_at hl 0 rfl) ?_
  refine lv_iload_n hx hb dX5_in_1 rfl (lv_at hl 1 rfl) ?_
  refine lv_icmp_lt (tgt := 14) hx hb dX5_in_2 (by decide) (fun c_1 => ?_) (fun c_1 => ?_)
  · refine lv_iconst (v := 0) hx hb dX5_in_14 (by decide) ?_
    exact rd_z hx hb hr rfl hlocks (by simp only [f_X5_in, if_pos c_1]) dX5_in_15
  · refine lv_iload_n hx hb dX5_in_5 rfl (lv_at hl 0 rfl) ?_
    refine lv_iload_n hx hb dX5_in_6 rfl (lv_at hl 2 rfl) ?_
    refine lv_icmp_gt (tgt := 14) hx hb dX5_in_7 (by decide) (fun c_2 => ?_) (fun c_2 => ?_)
    · refine lv_iconst (v := 0) hx hb dX5_in_14 (by decide) ?_
      exact rd_z hx hb hr rfl hlocks (by simp only [f_X5_in, if_neg c_1, if_pos c_2]) dX5_in_15
    · refine lv_iconst (v := 1) hx hb dX5_in_10 (by decide) ?_
      refine lv_goto (tgt := 15) hx hb dX5_in_11 (by decide) ?_
      exact rd_z hx hb hr rfl hlocks (by simp only [f_X5_in, if_neg c_1, if_neg c_2]) dX5_in_15
def f_X5_isPlace (p0 : Int32) : Int32 := (f_X5_in p0 0 5)
theorem z_X5_isPlace (p0 : Int32) : f_X5_isPlace p0 = 0 ∨ f_X5_isPlace p0 = 1 := z_X5_in p0 0 5
set_option maxHeartbeats 4000000 in
set_option maxRecDepth 100000 in
theorem c_X5_isPlace (l : Launch) (p0 : Int32) : Met l yX5_isPlace wsX5_isPlace ({ frames := 1, cells := 0, slots := 0, locals := 22 }) (va_Pc [.int p0] NW) (QcRead (f_X5_isPlace p0)) 0 0 (fun _ => False) := by
  refine Met.ofW (cc := cX5_isPlace) (maxL := 1) (ret := (some .boolean)) (by decide) rfl ?_
  intro p e s m args below meth c s₁ B hml hv
  obtain ⟨rfl, hN⟩ := hv
  have hx := B.exec
  have hb := B.bytes
  have hr := B.returns
  have hts := atoms_spec (ws := wsX5_isPlace) B.pre
  have hown : s.vm.findClass RX5 = some m.cls := findClass_of_methodNamed B.named
  have hlocks := B.notSynchronized
  have hl := lv_entry ([.int p0]) (n := 1) (Nat.le_of_ble_eq_true rfl)
  rw [lg_entry_eq]
  generalize (lg_sl ([.int p0]) ++ List.replicate (1 - (lg_sl ([.int p0])).length) Slot.unset).toArray = ls at hl ⊢
  have hl : lv_has ls 1 [(0, .int p0)] := hl
  refine lv_iload_n hx hb dX5_isPlace_0 rfl (lv_at hl 0 rfl) ?_
  refine lv_iconst (v := 0) hx hb dX5_isPlace_1 (by decide) ?_
  refine lv_iconst (v := 5) hx hb dX5_isPlace_2 (by decide) ?_
  refine kx_read (va_runS (As := [.int p0, .int 0, .int 5]) (rest := []) ⟨hx, hb, hml, hown, hts⟩ (c_X5_in l p0 0 5) (cwS 3 hts gX5_isPlace_X5_in rfl rfl rfl (by decide +kernel) ⟨(Nat.le_of_ble_eq_true rfl), (Nat.le_of_ble_eq_true rfl)⟩) (pS hN) rfl rfl hl.1 rfl (lv_room (Nat.le_of_ble_eq_true rfl)) dX5_isPlace_3 ⟨Nat.zero_le _, Nat.zero_le _⟩) ?_
  exact rd_z hx hb hr (nb01 (z_X5_in p0 0 5)) hlocks (by simp only [f_X5_isPlace]) dX5_isPlace_6
def f_X5_isBelow (p0 : Int32) (p1 : Int32) : Int32 := (if p1 ≤ p0 then 0 else (if 40 ≤ p1 then 0 else 1))
theorem z_X5_isBelow (p0 p1 : Int32) : f_X5_isBelow p0 p1 = 0 ∨ f_X5_isBelow p0 p1 = 1 := by
  unfold f_X5_isBelow; repeat' split
  all_goals simp
set_option maxHeartbeats 4000000 in
set_option maxRecDepth 100000 in
theorem c_X5_isBelow (l : Launch) (p0 : Int32) (p1 : Int32) : Met l yX5_isBelow wsX5_isBelow ({ frames := 0, cells := 0, slots := 0, locals := 0 }) (va_Pc [.int p0, .int p1] NW) (QcRead (f_X5_isBelow p0 p1)) 0 0 (fun _ => False) := by
  refine Met.ofW (cc := cX5_isBelow) (maxL := 2) (ret := (some .boolean)) (by decide) rfl ?_
  intro p e s m args below meth c s₁ B hml hv
  obtain ⟨rfl, hN⟩ := hv
  have hx := B.exec
  have hb := B.bytes
  have hr := B.returns
  have hts := atoms_spec (ws := wsX5_isBelow) B.pre
  have hown : s.vm.findClass RX5 = some m.cls := findClass_of_methodNamed B.named
  have hlocks := B.notSynchronized
  have hl := lv_entry ([.int p0, .int p1]) (n := 2) (Nat.le_of_ble_eq_true rfl)
  rw [lg_entry_eq]
  generalize (lg_sl ([.int p0, .int p1]) ++ List.replicate (2 - (lg_sl ([.int p0, .int p1])).length) Slot.unset).toArray = ls at hl ⊢
  have hl : lv_has ls 2 [(0, .int p0), (1, .int p1)] := hl
  refine lv_iload_n hx hb dX5_isBelow_0 rfl (lv_at hl 1 rfl) ?_
  refine lv_iload_n hx hb dX5_isBelow_1 rfl (lv_at hl 0 rfl) ?_
  refine lv_icmp_le (tgt := 15) hx hb dX5_isBelow_2 (by decide) (fun c_1 => ?_) (fun c_1 => ?_)
  · refine lv_iconst (v := 0) hx hb dX5_isBelow_15 (by decide) ?_
    exact rd_z hx hb hr rfl hlocks (by simp only [f_X5_isBelow, if_pos c_1]) dX5_isBelow_16
  · refine lv_iload_n hx hb dX5_isBelow_5 rfl (lv_at hl 1 rfl) ?_
    refine lv_bipush (v := 40) hx hb dX5_isBelow_6 (by decide) ?_
    refine lv_icmp_ge (tgt := 15) hx hb dX5_isBelow_8 (by decide) (fun c_2 => ?_) (fun c_2 => ?_)
    · refine lv_iconst (v := 0) hx hb dX5_isBelow_15 (by decide) ?_
      exact rd_z hx hb hr rfl hlocks (by simp only [f_X5_isBelow, if_neg c_1, if_pos c_2]) dX5_isBelow_16
    · refine lv_iconst (v := 1) hx hb dX5_isBelow_11 (by decide) ?_
      refine lv_goto (tgt := 16) hx hb dX5_isBelow_12 (by decide) ?_
      exact rd_z hx hb hr rfl hlocks (by simp only [f_X5_isBelow, if_neg c_1, if_neg c_2]) dX5_isBelow_16
def f_X5_isRight (p0 : Int32) (p1 : Int32) (p2 : Int32) (p3 : Int32) (p4 : Int32) : Int32 := (if p1 = 1 then (if (f_X5_isPlace p2) = 0 then 0 else (if (f_X5_isBelow p0 p3) = 0 then 0 else 1)) else (if p1 = 2 then (if (f_X5_in p2 0 5) = 0 then 0 else (if (f_X5_isBelow p0 p3) = 0 then 0 else 1)) else (if p1 = 3 then 1 else (if p1 = 4 then 1 else (if p1 = 5 then 1 else (if p1 = 6 then (f_X5_in p2 1 9) else (if p1 = 7 then (if (f_X5_in p2 0 13) = 0 then 0 else (if (f_X5_isBelow p0 p3) = 0 then 0 else (if (f_X5_isBelow p0 p4) = 0 then 0 else 1))) else (if p1 = 8 then (if (f_X5_isBelow p0 p3) = 0 then 0 else (if (f_X5_isBelow p0 p4) = 0 then 0 else 1)) else (if p1 = 9 then (f_X5_isBelow p0 p3) else (if p1 = 10 then (f_X5_isPlace p3) else (if p1 = 11 then (if (f_X5_isPlace p2) = 0 then 0 else (if (f_X5_isPlace p3) = 0 then 0 else 1)) else (if p1 = 12 then (f_X5_isPlace p2) else (if p1 = 13 then (f_X5_isPlace p2) else 1)))))))))))))
set_option maxHeartbeats 4000000 in
set_option maxRecDepth 100000 in
theorem c_X5_isRight (l : Launch) (p0 : Int32) (p1 : Int32) (p2 : Int32) (p3 : Int32) (p4 : Int32) : Met l yX5_isRight wsX5_isRight ({ frames := 2, cells := 0, slots := 0, locals := 42 }) (va_Pc [.int p0, .int p1, .int p2, .int p3, .int p4] NW) (QcRead (f_X5_isRight p0 p1 p2 p3 p4)) 0 0 (fun _ => False) := by
  refine Met.ofW (cc := cX5_isRight) (maxL := 5) (ret := (some .boolean)) (by decide) rfl ?_
  intro p e s m args below meth c s₁ B hml hv
  obtain ⟨rfl, hN⟩ := hv
  have hx := B.exec
  have hb := B.bytes
  have hr := B.returns
  have hts := atoms_spec (ws := wsX5_isRight) B.pre
  have hown : s.vm.findClass RX5 = some m.cls := findClass_of_methodNamed B.named
  have hlocks := B.notSynchronized
  have hl := lv_entry ([.int p0, .int p1, .int p2, .int p3, .int p4]) (n := 5) (Nat.le_of_ble_eq_true rfl)
  rw [lg_entry_eq]
  generalize (lg_sl ([.int p0, .int p1, .int p2, .int p3, .int p4]) ++ List.replicate (5 - (lg_sl ([.int p0, .int p1, .int p2, .int p3, .int p4])).length) Slot.unset).toArray = ls at hl ⊢
  have hl : lv_has ls 5 [(0, .int p0), (1, .int p1), (2, .int p2), (3, .int p3), (4, .int p4)] := hl
  refine lv_iload_n hx hb dX5_isRight_0 rfl (lv_at hl 1 rfl) ?_
  by_cases s_1 : p1 = 1
  · refine lv_tableIn (tgt := 68) (off := 67) hx hb dX5_isRight_1 (by rw [s_1]; decide) (by rw [s_1]; decide) (by rw [s_1]; rfl) (by decide) ?_
    refine lv_iload_n hx hb dX5_isRight_68 rfl (lv_at hl 2 rfl) ?_
    refine kx_read (va_runS (As := [.int p2]) (rest := []) ⟨hx, hb, hml, hown, hts⟩ (c_X5_isPlace l p2) (cwS 1 hts gX5_isRight_X5_isPlace rfl rfl rfl (by decide +kernel) ⟨(Nat.le_of_ble_eq_true rfl), (Nat.le_of_ble_eq_true rfl)⟩) (pS hN) rfl rfl hl.1 rfl (lv_room (Nat.le_of_ble_eq_true rfl)) dX5_isRight_69 ⟨Nat.zero_le _, Nat.zero_le _⟩) ?_
    refine lv_if_eq (tgt := 87) hx hb dX5_isRight_72 (by decide) (fun c_2 => ?_) (fun c_2 => ?_)
    · refine lv_iconst (v := 0) hx hb dX5_isRight_87 (by decide) ?_
      exact rd_z hx hb hr rfl hlocks (by simp only [f_X5_isRight, if_pos s_1, if_pos c_2]) dX5_isRight_88
    · refine lv_iload_n hx hb dX5_isRight_75 rfl (lv_at hl 0 rfl) ?_
      refine lv_iload_n hx hb dX5_isRight_76 rfl (lv_at hl 3 rfl) ?_
      refine kx_read (va_runS (As := [.int p0, .int p3]) (rest := []) ⟨hx, hb, hml, hown, hts⟩ (c_X5_isBelow l p0 p3) (cwS 2 hts gX5_isRight_X5_isBelow rfl rfl rfl (by decide +kernel) ⟨(Nat.le_of_ble_eq_true rfl), (Nat.le_of_ble_eq_true rfl)⟩) (pS hN) rfl rfl hl.1 rfl (lv_room (Nat.le_of_ble_eq_true rfl)) dX5_isRight_77 ⟨Nat.zero_le _, Nat.zero_le _⟩) ?_
      refine lv_if_eq (tgt := 87) hx hb dX5_isRight_80 (by decide) (fun c_3 => ?_) (fun c_3 => ?_)
      · refine lv_iconst (v := 0) hx hb dX5_isRight_87 (by decide) ?_
        exact rd_z hx hb hr rfl hlocks (by simp only [f_X5_isRight, if_pos s_1, if_neg c_2, if_pos c_3]) dX5_isRight_88
      · refine lv_iconst (v := 1) hx hb dX5_isRight_83 (by decide) ?_
        refine lv_goto (tgt := 88) hx hb dX5_isRight_84 (by decide) ?_
        exact rd_z hx hb hr rfl hlocks (by simp only [f_X5_isRight, if_pos s_1, if_neg c_2, if_neg c_3]) dX5_isRight_88
  by_cases s_4 : p1 = 2
  · refine lv_tableIn (tgt := 89) (off := 88) hx hb dX5_isRight_1 (by rw [s_4]; decide) (by rw [s_4]; decide) (by rw [s_4]; rfl) (by decide) ?_
    refine lv_iload_n hx hb dX5_isRight_89 rfl (lv_at hl 2 rfl) ?_
    refine lv_iconst (v := 0) hx hb dX5_isRight_90 (by decide) ?_
    refine lv_iconst (v := 5) hx hb dX5_isRight_91 (by decide) ?_
    refine kx_read (va_runS (As := [.int p2, .int 0, .int 5]) (rest := []) ⟨hx, hb, hml, hown, hts⟩ (c_X5_in l p2 0 5) (cwS 3 hts gX5_isRight_X5_in rfl rfl rfl (by decide +kernel) ⟨(Nat.le_of_ble_eq_true rfl), (Nat.le_of_ble_eq_true rfl)⟩) (pS hN) rfl rfl hl.1 rfl (lv_room (Nat.le_of_ble_eq_true rfl)) dX5_isRight_92 ⟨Nat.zero_le _, Nat.zero_le _⟩) ?_
    refine lv_if_eq (tgt := 110) hx hb dX5_isRight_95 (by decide) (fun c_5 => ?_) (fun c_5 => ?_)
    · refine lv_iconst (v := 0) hx hb dX5_isRight_110 (by decide) ?_
      exact rd_z hx hb hr rfl hlocks (by simp only [f_X5_isRight, if_neg s_1, if_pos s_4, if_pos c_5]) dX5_isRight_111
    · refine lv_iload_n hx hb dX5_isRight_98 rfl (lv_at hl 0 rfl) ?_
      refine lv_iload_n hx hb dX5_isRight_99 rfl (lv_at hl 3 rfl) ?_
      refine kx_read (va_runS (As := [.int p0, .int p3]) (rest := []) ⟨hx, hb, hml, hown, hts⟩ (c_X5_isBelow l p0 p3) (cwS 2 hts gX5_isRight_X5_isBelow rfl rfl rfl (by decide +kernel) ⟨(Nat.le_of_ble_eq_true rfl), (Nat.le_of_ble_eq_true rfl)⟩) (pS hN) rfl rfl hl.1 rfl (lv_room (Nat.le_of_ble_eq_true rfl)) dX5_isRight_100 ⟨Nat.zero_le _, Nat.zero_le _⟩) ?_
      refine lv_if_eq (tgt := 110) hx hb dX5_isRight_103 (by decide) (fun c_6 => ?_) (fun c_6 => ?_)
      · refine lv_iconst (v := 0) hx hb dX5_isRight_110 (by decide) ?_
        exact rd_z hx hb hr rfl hlocks (by simp only [f_X5_isRight, if_neg s_1, if_pos s_4, if_neg c_5, if_pos c_6]) dX5_isRight_111
      · refine lv_iconst (v := 1) hx hb dX5_isRight_106 (by decide) ?_
        refine lv_goto (tgt := 111) hx hb dX5_isRight_107 (by decide) ?_
        exact rd_z hx hb hr rfl hlocks (by simp only [f_X5_isRight, if_neg s_1, if_pos s_4, if_neg c_5, if_neg c_6]) dX5_isRight_111
  by_cases s_7 : p1 = 3
  · refine lv_tableIn (tgt := 212) (off := 211) hx hb dX5_isRight_1 (by rw [s_7]; decide) (by rw [s_7]; decide) (by rw [s_7]; rfl) (by decide) ?_
    refine lv_iconst (v := 1) hx hb dX5_isRight_212 (by decide) ?_
    exact rd_z hx hb hr rfl hlocks (by simp only [f_X5_isRight, if_neg s_1, if_neg s_4, if_pos s_7]) dX5_isRight_213
  by_cases s_8 : p1 = 4
  · refine lv_tableIn (tgt := 212) (off := 211) hx hb dX5_isRight_1 (by rw [s_8]; decide) (by rw [s_8]; decide) (by rw [s_8]; rfl) (by decide) ?_
    refine lv_iconst (v := 1) hx hb dX5_isRight_212 (by decide) ?_
    exact rd_z hx hb hr rfl hlocks (by simp only [f_X5_isRight, if_neg s_1, if_neg s_4, if_neg s_7, if_pos s_8]) dX5_isRight_213
  by_cases s_9 : p1 = 5
  · refine lv_tableIn (tgt := 212) (off := 211) hx hb dX5_isRight_1 (by rw [s_9]; decide) (by rw [s_9]; decide) (by rw [s_9]; rfl) (by decide) ?_
    refine lv_iconst (v := 1) hx hb dX5_isRight_212 (by decide) ?_
    exact rd_z hx hb hr rfl hlocks (by simp only [f_X5_isRight, if_neg s_1, if_neg s_4, if_neg s_7, if_neg s_8, if_pos s_9]) dX5_isRight_213
  by_cases s_10 : p1 = 6
  · refine lv_tableIn (tgt := 112) (off := 111) hx hb dX5_isRight_1 (by rw [s_10]; decide) (by rw [s_10]; decide) (by rw [s_10]; rfl) (by decide) ?_
    refine lv_iload_n hx hb dX5_isRight_112 rfl (lv_at hl 2 rfl) ?_
    refine lv_iconst (v := 1) hx hb dX5_isRight_113 (by decide) ?_
    refine lv_bipush (v := 9) hx hb dX5_isRight_114 (by decide) ?_
    refine kx_read (va_runS (As := [.int p2, .int 1, .int 9]) (rest := []) ⟨hx, hb, hml, hown, hts⟩ (c_X5_in l p2 1 9) (cwS 3 hts gX5_isRight_X5_in rfl rfl rfl (by decide +kernel) ⟨(Nat.le_of_ble_eq_true rfl), (Nat.le_of_ble_eq_true rfl)⟩) (pS hN) rfl rfl hl.1 rfl (lv_room (Nat.le_of_ble_eq_true rfl)) dX5_isRight_116 ⟨Nat.zero_le _, Nat.zero_le _⟩) ?_
    exact rd_z hx hb hr (nb01 (z_X5_in p2 1 9)) hlocks (by simp only [f_X5_isRight, if_neg s_1, if_neg s_4, if_neg s_7, if_neg s_8, if_neg s_9, if_pos s_10]) dX5_isRight_119
  by_cases s_11 : p1 = 7
  · refine lv_tableIn (tgt := 120) (off := 119) hx hb dX5_isRight_1 (by rw [s_11]; decide) (by rw [s_11]; decide) (by rw [s_11]; rfl) (by decide) ?_
    refine lv_iload_n hx hb dX5_isRight_120 rfl (lv_at hl 2 rfl) ?_
    refine lv_iconst (v := 0) hx hb dX5_isRight_121 (by decide) ?_
    refine lv_bipush (v := 13) hx hb dX5_isRight_122 (by decide) ?_
    refine kx_read (va_runS (As := [.int p2, .int 0, .int 13]) (rest := []) ⟨hx, hb, hml, hown, hts⟩ (c_X5_in l p2 0 13) (cwS 3 hts gX5_isRight_X5_in rfl rfl rfl (by decide +kernel) ⟨(Nat.le_of_ble_eq_true rfl), (Nat.le_of_ble_eq_true rfl)⟩) (pS hN) rfl rfl hl.1 rfl (lv_room (Nat.le_of_ble_eq_true rfl)) dX5_isRight_124 ⟨Nat.zero_le _, Nat.zero_le _⟩) ?_
    refine lv_if_eq (tgt := 151) hx hb dX5_isRight_127 (by decide) (fun c_12 => ?_) (fun c_12 => ?_)
    · refine lv_iconst (v := 0) hx hb dX5_isRight_151 (by decide) ?_
      exact rd_z hx hb hr rfl hlocks (by simp only [f_X5_isRight, if_neg s_1, if_neg s_4, if_neg s_7, if_neg s_8, if_neg s_9, if_neg s_10, if_pos s_11, if_pos c_12]) dX5_isRight_152
    · refine lv_iload_n hx hb dX5_isRight_130 rfl (lv_at hl 0 rfl) ?_
      refine lv_iload_n hx hb dX5_isRight_131 rfl (lv_at hl 3 rfl) ?_
      refine kx_read (va_runS (As := [.int p0, .int p3]) (rest := []) ⟨hx, hb, hml, hown, hts⟩ (c_X5_isBelow l p0 p3) (cwS 2 hts gX5_isRight_X5_isBelow rfl rfl rfl (by decide +kernel) ⟨(Nat.le_of_ble_eq_true rfl), (Nat.le_of_ble_eq_true rfl)⟩) (pS hN) rfl rfl hl.1 rfl (lv_room (Nat.le_of_ble_eq_true rfl)) dX5_isRight_132 ⟨Nat.zero_le _, Nat.zero_le _⟩) ?_
      refine lv_if_eq (tgt := 151) hx hb dX5_isRight_135 (by decide) (fun c_13 => ?_) (fun c_13 => ?_)
      · refine lv_iconst (v := 0) hx hb dX5_isRight_151 (by decide) ?_
        exact rd_z hx hb hr rfl hlocks (by simp only [f_X5_isRight, if_neg s_1, if_neg s_4, if_neg s_7, if_neg s_8, if_neg s_9, if_neg s_10, if_pos s_11, if_neg c_12, if_pos c_13]) dX5_isRight_152
      · refine lv_iload_n hx hb dX5_isRight_138 rfl (lv_at hl 0 rfl) ?_
        refine lv_iload hx hb dX5_isRight_139 (lv_at hl 4 rfl) ?_
        refine kx_read (va_runS (As := [.int p0, .int p4]) (rest := []) ⟨hx, hb, hml, hown, hts⟩ (c_X5_isBelow l p0 p4) (cwS 2 hts gX5_isRight_X5_isBelow rfl rfl rfl (by decide +kernel) ⟨(Nat.le_of_ble_eq_true rfl), (Nat.le_of_ble_eq_true rfl)⟩) (pS hN) rfl rfl hl.1 rfl (lv_room (Nat.le_of_ble_eq_true rfl)) dX5_isRight_141 ⟨Nat.zero_le _, Nat.zero_le _⟩) ?_
        refine lv_if_eq (tgt := 151) hx hb dX5_isRight_144 (by decide) (fun c_14 => ?_) (fun c_14 => ?_)
        · refine lv_iconst (v := 0) hx hb dX5_isRight_151 (by decide) ?_
          exact rd_z hx hb hr rfl hlocks (by simp only [f_X5_isRight, if_neg s_1, if_neg s_4, if_neg s_7, if_neg s_8, if_neg s_9, if_neg s_10, if_pos s_11, if_neg c_12, if_neg c_13, if_pos c_14]) dX5_isRight_152
        · refine lv_iconst (v := 1) hx hb dX5_isRight_147 (by decide) ?_
          refine lv_goto (tgt := 152) hx hb dX5_isRight_148 (by decide) ?_
          exact rd_z hx hb hr rfl hlocks (by simp only [f_X5_isRight, if_neg s_1, if_neg s_4, if_neg s_7, if_neg s_8, if_neg s_9, if_neg s_10, if_pos s_11, if_neg c_12, if_neg c_13, if_neg c_14]) dX5_isRight_152
  by_cases s_15 : p1 = 8
  · refine lv_tableIn (tgt := 153) (off := 152) hx hb dX5_isRight_1 (by rw [s_15]; decide) (by rw [s_15]; decide) (by rw [s_15]; rfl) (by decide) ?_
    refine lv_iload_n hx hb dX5_isRight_153 rfl (lv_at hl 0 rfl) ?_
    refine lv_iload_n hx hb dX5_isRight_154 rfl (lv_at hl 3 rfl) ?_
    refine kx_read (va_runS (As := [.int p0, .int p3]) (rest := []) ⟨hx, hb, hml, hown, hts⟩ (c_X5_isBelow l p0 p3) (cwS 2 hts gX5_isRight_X5_isBelow rfl rfl rfl (by decide +kernel) ⟨(Nat.le_of_ble_eq_true rfl), (Nat.le_of_ble_eq_true rfl)⟩) (pS hN) rfl rfl hl.1 rfl (lv_room (Nat.le_of_ble_eq_true rfl)) dX5_isRight_155 ⟨Nat.zero_le _, Nat.zero_le _⟩) ?_
    refine lv_if_eq (tgt := 174) hx hb dX5_isRight_158 (by decide) (fun c_16 => ?_) (fun c_16 => ?_)
    · refine lv_iconst (v := 0) hx hb dX5_isRight_174 (by decide) ?_
      exact rd_z hx hb hr rfl hlocks (by simp only [f_X5_isRight, if_neg s_1, if_neg s_4, if_neg s_7, if_neg s_8, if_neg s_9, if_neg s_10, if_neg s_11, if_pos s_15, if_pos c_16]) dX5_isRight_175
    · refine lv_iload_n hx hb dX5_isRight_161 rfl (lv_at hl 0 rfl) ?_
      refine lv_iload hx hb dX5_isRight_162 (lv_at hl 4 rfl) ?_
      refine kx_read (va_runS (As := [.int p0, .int p4]) (rest := []) ⟨hx, hb, hml, hown, hts⟩ (c_X5_isBelow l p0 p4) (cwS 2 hts gX5_isRight_X5_isBelow rfl rfl rfl (by decide +kernel) ⟨(Nat.le_of_ble_eq_true rfl), (Nat.le_of_ble_eq_true rfl)⟩) (pS hN) rfl rfl hl.1 rfl (lv_room (Nat.le_of_ble_eq_true rfl)) dX5_isRight_164 ⟨Nat.zero_le _, Nat.zero_le _⟩) ?_
      refine lv_if_eq (tgt := 174) hx hb dX5_isRight_167 (by decide) (fun c_17 => ?_) (fun c_17 => ?_)
      · refine lv_iconst (v := 0) hx hb dX5_isRight_174 (by decide) ?_
        exact rd_z hx hb hr rfl hlocks (by simp only [f_X5_isRight, if_neg s_1, if_neg s_4, if_neg s_7, if_neg s_8, if_neg s_9, if_neg s_10, if_neg s_11, if_pos s_15, if_neg c_16, if_pos c_17]) dX5_isRight_175
      · refine lv_iconst (v := 1) hx hb dX5_isRight_170 (by decide) ?_
        refine lv_goto (tgt := 175) hx hb dX5_isRight_171 (by decide) ?_
        exact rd_z hx hb hr rfl hlocks (by simp only [f_X5_isRight, if_neg s_1, if_neg s_4, if_neg s_7, if_neg s_8, if_neg s_9, if_neg s_10, if_neg s_11, if_pos s_15, if_neg c_16, if_neg c_17]) dX5_isRight_175
  by_cases s_18 : p1 = 9
  · refine lv_tableIn (tgt := 176) (off := 175) hx hb dX5_isRight_1 (by rw [s_18]; decide) (by rw [s_18]; decide) (by rw [s_18]; rfl) (by decide) ?_
    refine lv_iload_n hx hb dX5_isRight_176 rfl (lv_at hl 0 rfl) ?_
    refine lv_iload_n hx hb dX5_isRight_177 rfl (lv_at hl 3 rfl) ?_
    refine kx_read (va_runS (As := [.int p0, .int p3]) (rest := []) ⟨hx, hb, hml, hown, hts⟩ (c_X5_isBelow l p0 p3) (cwS 2 hts gX5_isRight_X5_isBelow rfl rfl rfl (by decide +kernel) ⟨(Nat.le_of_ble_eq_true rfl), (Nat.le_of_ble_eq_true rfl)⟩) (pS hN) rfl rfl hl.1 rfl (lv_room (Nat.le_of_ble_eq_true rfl)) dX5_isRight_178 ⟨Nat.zero_le _, Nat.zero_le _⟩) ?_
    exact rd_z hx hb hr (nb01 (z_X5_isBelow p0 p3)) hlocks (by simp only [f_X5_isRight, if_neg s_1, if_neg s_4, if_neg s_7, if_neg s_8, if_neg s_9, if_neg s_10, if_neg s_11, if_neg s_15, if_pos s_18]) dX5_isRight_181
  by_cases s_19 : p1 = 10
  · refine lv_tableIn (tgt := 182) (off := 181) hx hb dX5_isRight_1 (by rw [s_19]; decide) (by rw [s_19]; decide) (by rw [s_19]; rfl) (by decide) ?_
    refine lv_iload_n hx hb dX5_isRight_182 rfl (lv_at hl 3 rfl) ?_
    refine kx_read (va_runS (As := [.int p3]) (rest := []) ⟨hx, hb, hml, hown, hts⟩ (c_X5_isPlace l p3) (cwS 1 hts gX5_isRight_X5_isPlace rfl rfl rfl (by decide +kernel) ⟨(Nat.le_of_ble_eq_true rfl), (Nat.le_of_ble_eq_true rfl)⟩) (pS hN) rfl rfl hl.1 rfl (lv_room (Nat.le_of_ble_eq_true rfl)) dX5_isRight_183 ⟨Nat.zero_le _, Nat.zero_le _⟩) ?_
    exact rd_z hx hb hr (nb01 (z_X5_isPlace p3)) hlocks (by simp only [f_X5_isRight, if_neg s_1, if_neg s_4, if_neg s_7, if_neg s_8, if_neg s_9, if_neg s_10, if_neg s_11, if_neg s_15, if_neg s_18, if_pos s_19]) dX5_isRight_186
  by_cases s_20 : p1 = 11
  · refine lv_tableIn (tgt := 187) (off := 186) hx hb dX5_isRight_1 (by rw [s_20]; decide) (by rw [s_20]; decide) (by rw [s_20]; rfl) (by decide) ?_
    refine lv_iload_n hx hb dX5_isRight_187 rfl (lv_at hl 2 rfl) ?_
    refine kx_read (va_runS (As := [.int p2]) (rest := []) ⟨hx, hb, hml, hown, hts⟩ (c_X5_isPlace l p2) (cwS 1 hts gX5_isRight_X5_isPlace rfl rfl rfl (by decide +kernel) ⟨(Nat.le_of_ble_eq_true rfl), (Nat.le_of_ble_eq_true rfl)⟩) (pS hN) rfl rfl hl.1 rfl (lv_room (Nat.le_of_ble_eq_true rfl)) dX5_isRight_188 ⟨Nat.zero_le _, Nat.zero_le _⟩) ?_
    refine lv_if_eq (tgt := 205) hx hb dX5_isRight_191 (by decide) (fun c_21 => ?_) (fun c_21 => ?_)
    · refine lv_iconst (v := 0) hx hb dX5_isRight_205 (by decide) ?_
      exact rd_z hx hb hr rfl hlocks (by simp only [f_X5_isRight, if_neg s_1, if_neg s_4, if_neg s_7, if_neg s_8, if_neg s_9, if_neg s_10, if_neg s_11, if_neg s_15, if_neg s_18, if_neg s_19, if_pos s_20, if_pos c_21]) dX5_isRight_206
    · refine lv_iload_n hx hb dX5_isRight_194 rfl (lv_at hl 3 rfl) ?_
      refine kx_read (va_runS (As := [.int p3]) (rest := []) ⟨hx, hb, hml, hown, hts⟩ (c_X5_isPlace l p3) (cwS 1 hts gX5_isRight_X5_isPlace rfl rfl rfl (by decide +kernel) ⟨(Nat.le_of_ble_eq_true rfl), (Nat.le_of_ble_eq_true rfl)⟩) (pS hN) rfl rfl hl.1 rfl (lv_room (Nat.le_of_ble_eq_true rfl)) dX5_isRight_195 ⟨Nat.zero_le _, Nat.zero_le _⟩) ?_
      refine lv_if_eq (tgt := 205) hx hb dX5_isRight_198 (by decide) (fun c_22 => ?_) (fun c_22 => ?_)
      · refine lv_iconst (v := 0) hx hb dX5_isRight_205 (by decide) ?_
        exact rd_z hx hb hr rfl hlocks (by simp only [f_X5_isRight, if_neg s_1, if_neg s_4, if_neg s_7, if_neg s_8, if_neg s_9, if_neg s_10, if_neg s_11, if_neg s_15, if_neg s_18, if_neg s_19, if_pos s_20, if_neg c_21, if_pos c_22]) dX5_isRight_206
      · refine lv_iconst (v := 1) hx hb dX5_isRight_201 (by decide) ?_
        refine lv_goto (tgt := 206) hx hb dX5_isRight_202 (by decide) ?_
        exact rd_z hx hb hr rfl hlocks (by simp only [f_X5_isRight, if_neg s_1, if_neg s_4, if_neg s_7, if_neg s_8, if_neg s_9, if_neg s_10, if_neg s_11, if_neg s_15, if_neg s_18, if_neg s_19, if_pos s_20, if_neg c_21, if_neg c_22]) dX5_isRight_206
  by_cases s_23 : p1 = 12
  · refine lv_tableIn (tgt := 207) (off := 206) hx hb dX5_isRight_1 (by rw [s_23]; decide) (by rw [s_23]; decide) (by rw [s_23]; rfl) (by decide) ?_
    refine lv_iload_n hx hb dX5_isRight_207 rfl (lv_at hl 2 rfl) ?_
    refine kx_read (va_runS (As := [.int p2]) (rest := []) ⟨hx, hb, hml, hown, hts⟩ (c_X5_isPlace l p2) (cwS 1 hts gX5_isRight_X5_isPlace rfl rfl rfl (by decide +kernel) ⟨(Nat.le_of_ble_eq_true rfl), (Nat.le_of_ble_eq_true rfl)⟩) (pS hN) rfl rfl hl.1 rfl (lv_room (Nat.le_of_ble_eq_true rfl)) dX5_isRight_208 ⟨Nat.zero_le _, Nat.zero_le _⟩) ?_
    exact rd_z hx hb hr (nb01 (z_X5_isPlace p2)) hlocks (by simp only [f_X5_isRight, if_neg s_1, if_neg s_4, if_neg s_7, if_neg s_8, if_neg s_9, if_neg s_10, if_neg s_11, if_neg s_15, if_neg s_18, if_neg s_19, if_neg s_20, if_pos s_23]) dX5_isRight_211
  by_cases s_24 : p1 = 13
  · refine lv_tableIn (tgt := 207) (off := 206) hx hb dX5_isRight_1 (by rw [s_24]; decide) (by rw [s_24]; decide) (by rw [s_24]; rfl) (by decide) ?_
    refine lv_iload_n hx hb dX5_isRight_207 rfl (lv_at hl 2 rfl) ?_
    refine kx_read (va_runS (As := [.int p2]) (rest := []) ⟨hx, hb, hml, hown, hts⟩ (c_X5_isPlace l p2) (cwS 1 hts gX5_isRight_X5_isPlace rfl rfl rfl (by decide +kernel) ⟨(Nat.le_of_ble_eq_true rfl), (Nat.le_of_ble_eq_true rfl)⟩) (pS hN) rfl rfl hl.1 rfl (lv_room (Nat.le_of_ble_eq_true rfl)) dX5_isRight_208 ⟨Nat.zero_le _, Nat.zero_le _⟩) ?_
    exact rd_z hx hb hr (nb01 (z_X5_isPlace p2)) hlocks (by simp only [f_X5_isRight, if_neg s_1, if_neg s_4, if_neg s_7, if_neg s_8, if_neg s_9, if_neg s_10, if_neg s_11, if_neg s_15, if_neg s_18, if_neg s_19, if_neg s_20, if_neg s_23, if_pos s_24]) dX5_isRight_211
  have t_25 : (p1 : Int32).toInt < 1 ∨ 13 < (p1 : Int32).toInt := by
    have z0 := ne_ti (k := 1) (n := 1) s_1 (by decide)
    have z1 := ne_ti (k := 2) (n := 2) s_4 (by decide)
    have z2 := ne_ti (k := 3) (n := 3) s_7 (by decide)
    have z3 := ne_ti (k := 4) (n := 4) s_8 (by decide)
    have z4 := ne_ti (k := 5) (n := 5) s_9 (by decide)
    have z5 := ne_ti (k := 6) (n := 6) s_10 (by decide)
    have z6 := ne_ti (k := 7) (n := 7) s_11 (by decide)
    have z7 := ne_ti (k := 8) (n := 8) s_15 (by decide)
    have z8 := ne_ti (k := 9) (n := 9) s_18 (by decide)
    have z9 := ne_ti (k := 10) (n := 10) s_19 (by decide)
    have z10 := ne_ti (k := 11) (n := 11) s_20 (by decide)
    have z11 := ne_ti (k := 12) (n := 12) s_23 (by decide)
    have z12 := ne_ti (k := 13) (n := 13) s_24 (by decide)
    omega
  refine lv_tableOut (tgt := 212) hx hb dX5_isRight_1 t_25 (by decide) ?_
  refine lv_iconst (v := 1) hx hb dX5_isRight_212 (by decide) ?_
  exact rd_z hx hb hr rfl hlocks (by simp only [f_X5_isRight, if_neg s_1, if_neg s_4, if_neg s_7, if_neg s_8, if_neg s_9, if_neg s_10, if_neg s_11, if_neg s_15, if_neg s_18, if_neg s_19, if_neg s_20, if_neg s_23, if_neg s_24]) dX5_isRight_213
end
section
def f_X5_made (th : Int32) (ma : Int32) (to : Int32) (rn : Int32) (rf : Int32) (et : Int32) (sp : Int32) (ho : Int32) (mo : Int32) (cs : Int32) (uw : Int32) (wh : Int32) (lo : Int32) (pl : Nat → Int32) (nu : Nat → Int32) (de : Nat → Int32) (si : Nat → Int32) (ki : Nat → Int32) (aa : Nat → Int32) (xx : Nat → Int32) (yy : Nat → Int32) (en : Nat → Int32) (p0 : Int32) : Int32 × Int32 × Int32 × Int32 × Int32 × Int32 × Int32 × Int32 × Int32 × Int32 × Int32 × Int32 × Int32 × Int32 × (Nat → Int32) × (Nat → Int32) × (Nat → Int32) × (Nat → Int32) × (Nat → Int32) × (Nat → Int32) × (Nat → Int32) × (Nat → Int32) × (Nat → Int32) := (((ma + 1) - 1), th, (ma + 1), to, rn, rf, et, sp, ho, mo, cs, uw, wh, lo, (upd pl p0.toNatClampNeg ma), (upd nu ma.toNatClampNeg 0), (upd de ma.toNatClampNeg 0), si, ki, aa, xx, yy, en)
set_option maxHeartbeats 4000000 in
set_option maxRecDepth 100000 in
theorem c_X5_made (l : Launch) (dC : Nat → ClassId) (dI : Nat → Nat → Nat) (cA : ClassId) (q5 q5a q5b q5c q5d q5e q5f q5g q5h q5i : Nat) (sz : Nat) (th : Int32) (ma : Int32) (to : Int32) (rn : Int32) (rf : Int32) (et : Int32) (sp : Int32) (ho : Int32) (mo : Int32) (cs : Int32) (uw : Int32) (wh : Int32) (lo : Int32) (pl : Nat → Int32) (nu : Nat → Int32) (de : Nat → Int32) (si : Nat → Int32) (ki : Nat → Int32) (aa : Nat → Int32) (xx : Nat → Int32) (yy : Nat → Int32) (en : Nat → Int32) (p0 : Int32) (hm : vp_in ma 60) (hp : vp_in p0 6) : Met l yX5_made wsX5_made ({ frames := 0, cells := 0, slots := 0, locals := 0 }) (pcW (dC, dI) [(q5, .inr (5, [.int th, .ref q5a, .int ma, .ref q5b, .ref q5c, .int to, .ref q5d, .ref q5e, .ref q5f, .ref q5g, .ref q5h, .int rn, .int rf, .int et, .ref q5i, .int sp, .int ho, .int mo, .int cs, .int uw, .int wh, .int lo])), (q5a, .inl (cA, 6, .inl pl)), (q5b, .inl (cA, 60, .inl nu)), (q5c, .inl (cA, 60, .inl de)), (q5d, .inl (cA, 40, .inl si)), (q5e, .inl (cA, 480, .inl ki)), (q5f, .inl (cA, 480, .inl aa)), (q5g, .inl (cA, 480, .inl xx)), (q5h, .inl (cA, 480, .inl yy)), (q5i, .inl (cA, 250, .inl en))] [(cA, .int)] sz [.ref q5, .int p0]) (QWi (dC, dI) (f_X5_made th ma to rn rf et sp ho mo cs uw wh lo pl nu de si ki aa xx yy en p0) (wd_mo cA q5 q5a q5b q5c q5d q5e q5f q5g q5h q5i) (va_A [(q5, .inr (5, [.int th, .ref q5a, .int ma, .ref q5b, .ref q5c, .int to, .ref q5d, .ref q5e, .ref q5f, .ref q5g, .ref q5h, .int rn, .int rf, .int et, .ref q5i, .int sp, .int ho, .int mo, .int cs, .int uw, .int wh, .int lo])), (q5a, .inl (cA, 6, .inl pl)), (q5b, .inl (cA, 60, .inl nu)), (q5c, .inl (cA, 60, .inl de)), (q5d, .inl (cA, 40, .inl si)), (q5e, .inl (cA, 480, .inl ki)), (q5f, .inl (cA, 480, .inl aa)), (q5g, .inl (cA, 480, .inl xx)), (q5h, .inl (cA, 480, .inl yy)), (q5i, .inl (cA, 250, .inl en))] sz)) 0 0 (va_A [(q5, .inr (5, [.int th, .ref q5a, .int ma, .ref q5b, .ref q5c, .int to, .ref q5d, .ref q5e, .ref q5f, .ref q5g, .ref q5h, .int rn, .int rf, .int et, .ref q5i, .int sp, .int ho, .int mo, .int cs, .int uw, .int wh, .int lo])), (q5a, .inl (cA, 6, .inl pl)), (q5b, .inl (cA, 60, .inl nu)), (q5c, .inl (cA, 60, .inl de)), (q5d, .inl (cA, 40, .inl si)), (q5e, .inl (cA, 480, .inl ki)), (q5f, .inl (cA, 480, .inl aa)), (q5g, .inl (cA, 480, .inl xx)), (q5h, .inl (cA, 480, .inl yy)), (q5i, .inl (cA, 250, .inl en))] sz) := by
  refine Met.ofW (cc := cX5_made) (maxL := 2) (ret := (some .int)) (by decide) rfl ?_
  intro p e s m args below meth c s₁ B hml hv
  obtain ⟨rfl, hsz, hN, hP, hK, hD0⟩ := hv
  have hx := B.exec
  have hb := B.bytes
  have hr := B.returns
  have hts := atoms_spec (ws := wsX5_made) B.pre
  have hown : s.vm.findClass RX5 = some m.cls := findClass_of_methodNamed B.named
  have hlocks := B.notSynchronized
  subst hsz
  have hD := hD0.self (sz := s.heap.size)
  generalize hAe : va_A [(q5, .inr (5, [.int th, .ref q5a, .int ma, .ref q5b, .ref q5c, .int to, .ref q5d, .ref q5e, .ref q5f, .ref q5g, .ref q5h, .int rn, .int rf, .int et, .ref q5i, .int sp, .int ho, .int mo, .int cs, .int uw, .int wh, .int lo])), (q5a, .inl (cA, 6, .inl pl)), (q5b, .inl (cA, 60, .inl nu)), (q5c, .inl (cA, 60, .inl de)), (q5d, .inl (cA, 40, .inl si)), (q5e, .inl (cA, 480, .inl ki)), (q5f, .inl (cA, 480, .inl aa)), (q5g, .inl (cA, 480, .inl xx)), (q5h, .inl (cA, 480, .inl yy)), (q5i, .inl (cA, 250, .inl en))] s.heap.size = A at hD ⊢
  have hA : ∀ q : Nat, s.heap.size ≤ q → A q := fun q h => by rw [← hAe]; exact Or.inr h
  have hS : va_S A s.heap s.heap [] := va_S.rf
  have hl := lv_entry ([.ref q5, .int p0]) (n := 2) (Nat.le_of_ble_eq_true rfl)
  rw [lg_entry_eq]
  generalize (lg_sl ([.ref q5, .int p0]) ++ List.replicate (2 - (lg_sl ([.ref q5, .int p0])).length) Slot.unset).toArray = ls at hl ⊢
  have hl : lv_has ls 2 [(0, .ref q5), (1, .int p0)] := hl
  refine lv_aload_n hx hb dX5_made_0 rfl (lv_at hl 0 rfl) ?_
  refine va_get (D := (dC, dI)) (ci := 5) (v := .ref q5b) (C := RX5) (T := TX5) (N := 22) hx hb hts (by decide +kernel) hown hK hP 0 rfl rfl 3 (by decide) (hts (.fieldLink RX5 13 RX5 "number" "[I") (by decide +kernel)) (fun _ h9 => h9) rfl dX5_made_1 ?_
  refine lv_aload_n hx hb dX5_made_4 rfl (lv_at hl 0 rfl) ?_
  refine va_get (D := (dC, dI)) (ci := 5) (v := .int ma) (C := RX5) (T := TX5) (N := 22) hx hb hts (by decide +kernel) hown hK hP 0 rfl rfl 2 (by decide) (hts (.fieldLink RX5 45 RX5 "things" "I") (by decide +kernel)) (fun _ h9 => h9) rfl dX5_made_5 ?_
  refine lv_iconst (v := 0) hx hb dX5_made_8 (by decide) ?_
  refine va_iast hx hb hK hP hD hS 2 0 rfl rfl hm dX5_made_9 (fun H locs hP hD hS => ?_)
  have hP : va_P (dC, dI) vwCl [(q5, .inr (5, [.int th, .ref q5a, .int ma, .ref q5b, .ref q5c, .int to, .ref q5d, .ref q5e, .ref q5f, .ref q5g, .ref q5h, .int rn, .int rf, .int et, .ref q5i, .int sp, .int ho, .int mo, .int cs, .int uw, .int wh, .int lo])), (q5a, .inl (cA, 6, .inl pl)), (q5b, .inl (cA, 60, .inl (upd nu ma.toNatClampNeg 0))), (q5c, .inl (cA, 60, .inl de)), (q5d, .inl (cA, 40, .inl si)), (q5e, .inl (cA, 480, .inl ki)), (q5f, .inl (cA, 480, .inl aa)), (q5g, .inl (cA, 480, .inl xx)), (q5h, .inl (cA, 480, .inl yy)), (q5i, .inl (cA, 250, .inl en))] H := hP
  have hD : va_D A [(q5, .inr (5, [.int th, .ref q5a, .int ma, .ref q5b, .ref q5c, .int to, .ref q5d, .ref q5e, .ref q5f, .ref q5g, .ref q5h, .int rn, .int rf, .int et, .ref q5i, .int sp, .int ho, .int mo, .int cs, .int uw, .int wh, .int lo])), (q5a, .inl (cA, 6, .inl pl)), (q5b, .inl (cA, 60, .inl (upd nu ma.toNatClampNeg 0))), (q5c, .inl (cA, 60, .inl de)), (q5d, .inl (cA, 40, .inl si)), (q5e, .inl (cA, 480, .inl ki)), (q5f, .inl (cA, 480, .inl aa)), (q5g, .inl (cA, 480, .inl xx)), (q5h, .inl (cA, 480, .inl yy)), (q5i, .inl (cA, 250, .inl en))] := hD
  refine lv_aload_n hx hb dX5_made_10 rfl (lv_at hl 0 rfl) ?_
  refine va_get (D := (dC, dI)) (ci := 5) (v := .ref q5c) (C := RX5) (T := TX5) (N := 22) hx hb hts (by decide +kernel) hown hK hP 0 rfl rfl 4 (by decide) (hts (.fieldLink RX5 16 RX5 "depth" "[I") (by decide +kernel)) (fun _ h9 => h9) rfl dX5_made_11 ?_
  refine lv_aload_n hx hb dX5_made_14 rfl (lv_at hl 0 rfl) ?_
  refine va_get (D := (dC, dI)) (ci := 5) (v := .int ma) (C := RX5) (T := TX5) (N := 22) hx hb hts (by decide +kernel) hown hK hP 0 rfl rfl 2 (by decide) (hts (.fieldLink RX5 45 RX5 "things" "I") (by decide +kernel)) (fun _ h9 => h9) rfl dX5_made_15 ?_
  refine lv_iconst (v := 0) hx hb dX5_made_18 (by decide) ?_
  refine va_iast hx hb hK hP hD hS 3 0 rfl rfl hm dX5_made_19 (fun H locs hP hD hS => ?_)
  have hP : va_P (dC, dI) vwCl [(q5, .inr (5, [.int th, .ref q5a, .int ma, .ref q5b, .ref q5c, .int to, .ref q5d, .ref q5e, .ref q5f, .ref q5g, .ref q5h, .int rn, .int rf, .int et, .ref q5i, .int sp, .int ho, .int mo, .int cs, .int uw, .int wh, .int lo])), (q5a, .inl (cA, 6, .inl pl)), (q5b, .inl (cA, 60, .inl (upd nu ma.toNatClampNeg 0))), (q5c, .inl (cA, 60, .inl (upd de ma.toNatClampNeg 0))), (q5d, .inl (cA, 40, .inl si)), (q5e, .inl (cA, 480, .inl ki)), (q5f, .inl (cA, 480, .inl aa)), (q5g, .inl (cA, 480, .inl xx)), (q5h, .inl (cA, 480, .inl yy)), (q5i, .inl (cA, 250, .inl en))] H := hP
  have hD : va_D A [(q5, .inr (5, [.int th, .ref q5a, .int ma, .ref q5b, .ref q5c, .int to, .ref q5d, .ref q5e, .ref q5f, .ref q5g, .ref q5h, .int rn, .int rf, .int et, .ref q5i, .int sp, .int ho, .int mo, .int cs, .int uw, .int wh, .int lo])), (q5a, .inl (cA, 6, .inl pl)), (q5b, .inl (cA, 60, .inl (upd nu ma.toNatClampNeg 0))), (q5c, .inl (cA, 60, .inl (upd de ma.toNatClampNeg 0))), (q5d, .inl (cA, 40, .inl si)), (q5e, .inl (cA, 480, .inl ki)), (q5f, .inl (cA, 480, .inl aa)), (q5g, .inl (cA, 480, .inl xx)), (q5h, .inl (cA, 480, .inl yy)), (q5i, .inl (cA, 250, .inl en))] := hD
  refine lv_aload_n hx hb dX5_made_20 rfl (lv_at hl 0 rfl) ?_
  refine va_get (D := (dC, dI)) (ci := 5) (v := .ref q5a) (C := RX5) (T := TX5) (N := 22) hx hb hts (by decide +kernel) hown hK hP 0 rfl rfl 1 (by decide) (hts (.fieldLink RX5 7 RX5 "placed" "[I") (by decide +kernel)) (fun _ h9 => h9) rfl dX5_made_21 ?_
  refine lv_iload_n hx hb dX5_made_24 rfl (lv_at hl 1 rfl) ?_
  refine lv_aload_n hx hb dX5_made_25 rfl (lv_at hl 0 rfl) ?_
  refine va_get (D := (dC, dI)) (ci := 5) (v := .int ma) (C := RX5) (T := TX5) (N := 22) hx hb hts (by decide +kernel) hown hK hP 0 rfl rfl 2 (by decide) (hts (.fieldLink RX5 45 RX5 "things" "I") (by decide +kernel)) (fun _ h9 => h9) rfl dX5_made_26 ?_
  refine va_iast hx hb hK hP hD hS 1 0 rfl rfl hp dX5_made_29 (fun H locs hP hD hS => ?_)
  have hP : va_P (dC, dI) vwCl [(q5, .inr (5, [.int th, .ref q5a, .int ma, .ref q5b, .ref q5c, .int to, .ref q5d, .ref q5e, .ref q5f, .ref q5g, .ref q5h, .int rn, .int rf, .int et, .ref q5i, .int sp, .int ho, .int mo, .int cs, .int uw, .int wh, .int lo])), (q5a, .inl (cA, 6, .inl (upd pl p0.toNatClampNeg ma))), (q5b, .inl (cA, 60, .inl (upd nu ma.toNatClampNeg 0))), (q5c, .inl (cA, 60, .inl (upd de ma.toNatClampNeg 0))), (q5d, .inl (cA, 40, .inl si)), (q5e, .inl (cA, 480, .inl ki)), (q5f, .inl (cA, 480, .inl aa)), (q5g, .inl (cA, 480, .inl xx)), (q5h, .inl (cA, 480, .inl yy)), (q5i, .inl (cA, 250, .inl en))] H := hP
  have hD : va_D A [(q5, .inr (5, [.int th, .ref q5a, .int ma, .ref q5b, .ref q5c, .int to, .ref q5d, .ref q5e, .ref q5f, .ref q5g, .ref q5h, .int rn, .int rf, .int et, .ref q5i, .int sp, .int ho, .int mo, .int cs, .int uw, .int wh, .int lo])), (q5a, .inl (cA, 6, .inl (upd pl p0.toNatClampNeg ma))), (q5b, .inl (cA, 60, .inl (upd nu ma.toNatClampNeg 0))), (q5c, .inl (cA, 60, .inl (upd de ma.toNatClampNeg 0))), (q5d, .inl (cA, 40, .inl si)), (q5e, .inl (cA, 480, .inl ki)), (q5f, .inl (cA, 480, .inl aa)), (q5g, .inl (cA, 480, .inl xx)), (q5h, .inl (cA, 480, .inl yy)), (q5i, .inl (cA, 250, .inl en))] := hD
  refine lv_aload_n hx hb dX5_made_30 rfl (lv_at hl 0 rfl) ?_
  refine lv_dup hx hb dX5_made_31 rfl ?_
  refine va_get (D := (dC, dI)) (ci := 5) (v := .int ma) (C := RX5) (T := TX5) (N := 22) hx hb hts (by decide +kernel) hown hK hP 0 rfl rfl 2 (by decide) (hts (.fieldLink RX5 45 RX5 "things" "I") (by decide +kernel)) (fun _ h9 => h9) rfl dX5_made_32 ?_
  refine lv_iconst (v := 1) hx hb dX5_made_35 (by decide) ?_
  refine lv_iadd hx hb dX5_made_36 ?_
  refine va_put (D := (dC, dI)) (ci := 5) (v := .int (ma + 1)) (ty := .int) (C := RX5) (T := TX5) (N := 22) hx hb hts (by decide +kernel) tyX5 tyX5_ok nmX5 hown hK hP hD hS 0 rfl rfl 2 (by decide) (hts (.fieldLink RX5 45 RX5 "things" "I") (by decide +kernel)) (fun _ h9 => h9) rfl (by decide +kernel) rfl rfl (Nat.le_of_ble_eq_true rfl) dX5_made_37 (fun H locs hP hD hS => ?_)
  have hP : va_P (dC, dI) vwCl [(q5, .inr (5, [.int th, .ref q5a, .int (ma + 1), .ref q5b, .ref q5c, .int to, .ref q5d, .ref q5e, .ref q5f, .ref q5g, .ref q5h, .int rn, .int rf, .int et, .ref q5i, .int sp, .int ho, .int mo, .int cs, .int uw, .int wh, .int lo])), (q5a, .inl (cA, 6, .inl (upd pl p0.toNatClampNeg ma))), (q5b, .inl (cA, 60, .inl (upd nu ma.toNatClampNeg 0))), (q5c, .inl (cA, 60, .inl (upd de ma.toNatClampNeg 0))), (q5d, .inl (cA, 40, .inl si)), (q5e, .inl (cA, 480, .inl ki)), (q5f, .inl (cA, 480, .inl aa)), (q5g, .inl (cA, 480, .inl xx)), (q5h, .inl (cA, 480, .inl yy)), (q5i, .inl (cA, 250, .inl en))] H := hP
  have hD : va_D A [(q5, .inr (5, [.int th, .ref q5a, .int (ma + 1), .ref q5b, .ref q5c, .int to, .ref q5d, .ref q5e, .ref q5f, .ref q5g, .ref q5h, .int rn, .int rf, .int et, .ref q5i, .int sp, .int ho, .int mo, .int cs, .int uw, .int wh, .int lo])), (q5a, .inl (cA, 6, .inl (upd pl p0.toNatClampNeg ma))), (q5b, .inl (cA, 60, .inl (upd nu ma.toNatClampNeg 0))), (q5c, .inl (cA, 60, .inl (upd de ma.toNatClampNeg 0))), (q5d, .inl (cA, 40, .inl si)), (q5e, .inl (cA, 480, .inl ki)), (q5f, .inl (cA, 480, .inl aa)), (q5g, .inl (cA, 480, .inl xx)), (q5h, .inl (cA, 480, .inl yy)), (q5i, .inl (cA, 250, .inl en))] := hD
  refine lv_aload_n hx hb dX5_made_40 rfl (lv_at hl 0 rfl) ?_
  refine va_get (D := (dC, dI)) (ci := 5) (v := .int (ma + 1)) (C := RX5) (T := TX5) (N := 22) hx hb hts (by decide +kernel) hown hK hP 0 rfl rfl 2 (by decide) (hts (.fieldLink RX5 45 RX5 "things" "I") (by decide +kernel)) (fun _ h9 => h9) rfl dX5_made_41 ?_
  refine lv_iconst (v := 1) hx hb dX5_made_44 (by decide) ?_
  refine lv_isub hx hb dX5_made_45 ?_
  exact rt_i hx hb hr hlocks (th, (ma + 1), to, rn, rf, et, sp, ho, mo, cs, uw, wh, lo, (upd pl p0.toNatClampNeg ma), (upd nu ma.toNatClampNeg 0), (upd de ma.toNatClampNeg 0), si, ki, aa, xx, yy, en) (by simp only [f_X5_made]) hP hD hS dX5_made_46
def f_X5_comes (th : Int32) (ma : Int32) (to : Int32) (rn : Int32) (rf : Int32) (et : Int32) (sp : Int32) (ho : Int32) (mo : Int32) (cs : Int32) (uw : Int32) (wh : Int32) (lo : Int32) (pl : Nat → Int32) (nu : Nat → Int32) (de : Nat → Int32) (si : Nat → Int32) (ki : Nat → Int32) (aa : Nat → Int32) (xx : Nat → Int32) (yy : Nat → Int32) (en : Nat → Int32) (p0 : Int32) : Int32 × Int32 × Int32 × Int32 × Int32 × Int32 × Int32 × Int32 × Int32 × Int32 × Int32 × Int32 × Int32 × (Nat → Int32) × (Nat → Int32) × (Nat → Int32) × (Nat → Int32) × (Nat → Int32) × (Nat → Int32) × (Nat → Int32) × (Nat → Int32) × (Nat → Int32) := (if 250 ≤ et then (th, ma, to, rn, rf, (et + 1), sp, ho, mo, cs, uw, wh, lo, pl, nu, de, si, ki, aa, xx, yy, en) else (th, ma, to, rn, rf, (et + 1), sp, ho, mo, cs, uw, wh, lo, pl, nu, de, si, ki, aa, xx, yy, (upd en et.toNatClampNeg p0)))
set_option maxHeartbeats 4000000 in
set_option maxRecDepth 100000 in
theorem c_X5_comes (l : Launch) (dC : Nat → ClassId) (dI : Nat → Nat → Nat) (cA : ClassId) (q5 q5a q5b q5c q5d q5e q5f q5g q5h q5i : Nat) (sz : Nat) (th : Int32) (ma : Int32) (to : Int32) (rn : Int32) (rf : Int32) (et : Int32) (sp : Int32) (ho : Int32) (mo : Int32) (cs : Int32) (uw : Int32) (wh : Int32) (lo : Int32) (pl : Nat → Int32) (nu : Nat → Int32) (de : Nat → Int32) (si : Nat → Int32) (ki : Nat → Int32) (aa : Nat → Int32) (xx : Nat → Int32) (yy : Nat → Int32) (en : Nat → Int32) (p0 : Int32) (het : 0 ≤ et.toInt) : Met l yX5_comes wsX5_comes ({ frames := 0, cells := 0, slots := 0, locals := 0 }) (pcW (dC, dI) [(q5, .inr (5, [.int th, .ref q5a, .int ma, .ref q5b, .ref q5c, .int to, .ref q5d, .ref q5e, .ref q5f, .ref q5g, .ref q5h, .int rn, .int rf, .int et, .ref q5i, .int sp, .int ho, .int mo, .int cs, .int uw, .int wh, .int lo])), (q5a, .inl (cA, 6, .inl pl)), (q5b, .inl (cA, 60, .inl nu)), (q5c, .inl (cA, 60, .inl de)), (q5d, .inl (cA, 40, .inl si)), (q5e, .inl (cA, 480, .inl ki)), (q5f, .inl (cA, 480, .inl aa)), (q5g, .inl (cA, 480, .inl xx)), (q5h, .inl (cA, 480, .inl yy)), (q5i, .inl (cA, 250, .inl en))] [(cA, .int)] sz [.ref q5, .int p0]) (QWv (dC, dI) (f_X5_comes th ma to rn rf et sp ho mo cs uw wh lo pl nu de si ki aa xx yy en p0) (wd_mo cA q5 q5a q5b q5c q5d q5e q5f q5g q5h q5i) (va_A [(q5, .inr (5, [.int th, .ref q5a, .int ma, .ref q5b, .ref q5c, .int to, .ref q5d, .ref q5e, .ref q5f, .ref q5g, .ref q5h, .int rn, .int rf, .int et, .ref q5i, .int sp, .int ho, .int mo, .int cs, .int uw, .int wh, .int lo])), (q5a, .inl (cA, 6, .inl pl)), (q5b, .inl (cA, 60, .inl nu)), (q5c, .inl (cA, 60, .inl de)), (q5d, .inl (cA, 40, .inl si)), (q5e, .inl (cA, 480, .inl ki)), (q5f, .inl (cA, 480, .inl aa)), (q5g, .inl (cA, 480, .inl xx)), (q5h, .inl (cA, 480, .inl yy)), (q5i, .inl (cA, 250, .inl en))] sz)) 0 0 (va_A [(q5, .inr (5, [.int th, .ref q5a, .int ma, .ref q5b, .ref q5c, .int to, .ref q5d, .ref q5e, .ref q5f, .ref q5g, .ref q5h, .int rn, .int rf, .int et, .ref q5i, .int sp, .int ho, .int mo, .int cs, .int uw, .int wh, .int lo])), (q5a, .inl (cA, 6, .inl pl)), (q5b, .inl (cA, 60, .inl nu)), (q5c, .inl (cA, 60, .inl de)), (q5d, .inl (cA, 40, .inl si)), (q5e, .inl (cA, 480, .inl ki)), (q5f, .inl (cA, 480, .inl aa)), (q5g, .inl (cA, 480, .inl xx)), (q5h, .inl (cA, 480, .inl yy)), (q5i, .inl (cA, 250, .inl en))] sz) := by
  refine Met.ofW (cc := cX5_comes) (maxL := 2) (ret := none) (by decide) rfl ?_
  intro p e s m args below meth c s₁ B hml hv
  obtain ⟨rfl, hsz, hN, hP, hK, hD0⟩ := hv
  have hx := B.exec
  have hb := B.bytes
  have hr := B.returns
  have hts := atoms_spec (ws := wsX5_comes) B.pre
  have hown : s.vm.findClass RX5 = some m.cls := findClass_of_methodNamed B.named
  have hlocks := B.notSynchronized
  subst hsz
  have hD := hD0.self (sz := s.heap.size)
  generalize hAe : va_A [(q5, .inr (5, [.int th, .ref q5a, .int ma, .ref q5b, .ref q5c, .int to, .ref q5d, .ref q5e, .ref q5f, .ref q5g, .ref q5h, .int rn, .int rf, .int et, .ref q5i, .int sp, .int ho, .int mo, .int cs, .int uw, .int wh, .int lo])), (q5a, .inl (cA, 6, .inl pl)), (q5b, .inl (cA, 60, .inl nu)), (q5c, .inl (cA, 60, .inl de)), (q5d, .inl (cA, 40, .inl si)), (q5e, .inl (cA, 480, .inl ki)), (q5f, .inl (cA, 480, .inl aa)), (q5g, .inl (cA, 480, .inl xx)), (q5h, .inl (cA, 480, .inl yy)), (q5i, .inl (cA, 250, .inl en))] s.heap.size = A at hD ⊢
  have hA : ∀ q : Nat, s.heap.size ≤ q → A q := fun q h => by rw [← hAe]; exact Or.inr h
  have hS : va_S A s.heap s.heap [] := va_S.rf
  have hl := lv_entry ([.ref q5, .int p0]) (n := 2) (Nat.le_of_ble_eq_true rfl)
  rw [lg_entry_eq]
  generalize (lg_sl ([.ref q5, .int p0]) ++ List.replicate (2 - (lg_sl ([.ref q5, .int p0])).length) Slot.unset).toArray = ls at hl ⊢
  have hl : lv_has ls 2 [(0, .ref q5), (1, .int p0)] := hl
  refine lv_aload_n hx hb dX5_comes_0 rfl (lv_at hl 0 rfl) ?_
  refine va_get (D := (dC, dI)) (ci := 5) (v := .int et) (C := RX5) (T := TX5) (N := 22) hx hb hts (by decide +kernel) hown hK hP 0 rfl rfl 13 (by decide) (hts (.fieldLink RX5 67 RX5 "traced" "I") (by decide +kernel)) (fun _ h9 => h9) rfl dX5_comes_1 ?_
  refine lv_sipush (v := 250) hx hb dX5_comes_4 (by decide) ?_
  refine lv_icmp_ge (tgt := 20) hx hb dX5_comes_7 (by decide) (fun c_1 => ?_) (fun c_1 => ?_)
  · refine lv_aload_n hx hb dX5_comes_20 rfl (lv_at hl 0 rfl) ?_
    refine lv_dup hx hb dX5_comes_21 rfl ?_
    refine va_get (D := (dC, dI)) (ci := 5) (v := .int et) (C := RX5) (T := TX5) (N := 22) hx hb hts (by decide +kernel) hown hK hP 0 rfl rfl 13 (by decide) (hts (.fieldLink RX5 67 RX5 "traced" "I") (by decide +kernel)) (fun _ h9 => h9) rfl dX5_comes_22 ?_
    refine lv_iconst (v := 1) hx hb dX5_comes_25 (by decide) ?_
    refine lv_iadd hx hb dX5_comes_26 ?_
    refine va_put (D := (dC, dI)) (ci := 5) (v := .int (et + 1)) (ty := .int) (C := RX5) (T := TX5) (N := 22) hx hb hts (by decide +kernel) tyX5 tyX5_ok nmX5 hown hK hP hD hS 0 rfl rfl 13 (by decide) (hts (.fieldLink RX5 67 RX5 "traced" "I") (by decide +kernel)) (fun _ h9 => h9) rfl (by decide +kernel) rfl rfl (Nat.le_of_ble_eq_true rfl) dX5_comes_27 (fun H locs hP hD hS => ?_)
    have hP : va_P (dC, dI) vwCl [(q5, .inr (5, [.int th, .ref q5a, .int ma, .ref q5b, .ref q5c, .int to, .ref q5d, .ref q5e, .ref q5f, .ref q5g, .ref q5h, .int rn, .int rf, .int (et + 1), .ref q5i, .int sp, .int ho, .int mo, .int cs, .int uw, .int wh, .int lo])), (q5a, .inl (cA, 6, .inl pl)), (q5b, .inl (cA, 60, .inl nu)), (q5c, .inl (cA, 60, .inl de)), (q5d, .inl (cA, 40, .inl si)), (q5e, .inl (cA, 480, .inl ki)), (q5f, .inl (cA, 480, .inl aa)), (q5g, .inl (cA, 480, .inl xx)), (q5h, .inl (cA, 480, .inl yy)), (q5i, .inl (cA, 250, .inl en))] H := hP
    have hD : va_D A [(q5, .inr (5, [.int th, .ref q5a, .int ma, .ref q5b, .ref q5c, .int to, .ref q5d, .ref q5e, .ref q5f, .ref q5g, .ref q5h, .int rn, .int rf, .int (et + 1), .ref q5i, .int sp, .int ho, .int mo, .int cs, .int uw, .int wh, .int lo])), (q5a, .inl (cA, 6, .inl pl)), (q5b, .inl (cA, 60, .inl nu)), (q5c, .inl (cA, 60, .inl de)), (q5d, .inl (cA, 40, .inl si)), (q5e, .inl (cA, 480, .inl ki)), (q5f, .inl (cA, 480, .inl aa)), (q5g, .inl (cA, 480, .inl xx)), (q5h, .inl (cA, 480, .inl yy)), (q5i, .inl (cA, 250, .inl en))] := hD
    exact rt_v hx hb hr hlocks (th, ma, to, rn, rf, (et + 1), sp, ho, mo, cs, uw, wh, lo, pl, nu, de, si, ki, aa, xx, yy, en) (by simp only [f_X5_comes, if_pos c_1]) hP hD hS dX5_comes_30
  · refine lv_aload_n hx hb dX5_comes_10 rfl (lv_at hl 0 rfl) ?_
    refine va_get (D := (dC, dI)) (ci := 5) (v := .ref q5i) (C := RX5) (T := TX5) (N := 22) hx hb hts (by decide +kernel) hown hK hP 0 rfl rfl 14 (by decide) (hts (.fieldLink RX5 34 RX5 "trace" "[I") (by decide +kernel)) (fun _ h9 => h9) rfl dX5_comes_11 ?_
    refine lv_aload_n hx hb dX5_comes_14 rfl (lv_at hl 0 rfl) ?_
    refine va_get (D := (dC, dI)) (ci := 5) (v := .int et) (C := RX5) (T := TX5) (N := 22) hx hb hts (by decide +kernel) hown hK hP 0 rfl rfl 13 (by decide) (hts (.fieldLink RX5 67 RX5 "traced" "I") (by decide +kernel)) (fun _ h9 => h9) rfl dX5_comes_15 ?_
    refine lv_iload_n hx hb dX5_comes_18 rfl (lv_at hl 1 rfl) ?_
    refine va_iast hx hb hK hP hD hS 9 0 rfl rfl (in_en het c_1) dX5_comes_19 (fun H locs hP hD hS => ?_)
    have hP : va_P (dC, dI) vwCl [(q5, .inr (5, [.int th, .ref q5a, .int ma, .ref q5b, .ref q5c, .int to, .ref q5d, .ref q5e, .ref q5f, .ref q5g, .ref q5h, .int rn, .int rf, .int et, .ref q5i, .int sp, .int ho, .int mo, .int cs, .int uw, .int wh, .int lo])), (q5a, .inl (cA, 6, .inl pl)), (q5b, .inl (cA, 60, .inl nu)), (q5c, .inl (cA, 60, .inl de)), (q5d, .inl (cA, 40, .inl si)), (q5e, .inl (cA, 480, .inl ki)), (q5f, .inl (cA, 480, .inl aa)), (q5g, .inl (cA, 480, .inl xx)), (q5h, .inl (cA, 480, .inl yy)), (q5i, .inl (cA, 250, .inl (upd en et.toNatClampNeg p0)))] H := hP
    have hD : va_D A [(q5, .inr (5, [.int th, .ref q5a, .int ma, .ref q5b, .ref q5c, .int to, .ref q5d, .ref q5e, .ref q5f, .ref q5g, .ref q5h, .int rn, .int rf, .int et, .ref q5i, .int sp, .int ho, .int mo, .int cs, .int uw, .int wh, .int lo])), (q5a, .inl (cA, 6, .inl pl)), (q5b, .inl (cA, 60, .inl nu)), (q5c, .inl (cA, 60, .inl de)), (q5d, .inl (cA, 40, .inl si)), (q5e, .inl (cA, 480, .inl ki)), (q5f, .inl (cA, 480, .inl aa)), (q5g, .inl (cA, 480, .inl xx)), (q5h, .inl (cA, 480, .inl yy)), (q5i, .inl (cA, 250, .inl (upd en et.toNatClampNeg p0)))] := hD
    refine lv_aload_n hx hb dX5_comes_20 rfl (lv_at hl 0 rfl) ?_
    refine lv_dup hx hb dX5_comes_21 rfl ?_
    refine va_get (D := (dC, dI)) (ci := 5) (v := .int et) (C := RX5) (T := TX5) (N := 22) hx hb hts (by decide +kernel) hown hK hP 0 rfl rfl 13 (by decide) (hts (.fieldLink RX5 67 RX5 "traced" "I") (by decide +kernel)) (fun _ h9 => h9) rfl dX5_comes_22 ?_
    refine lv_iconst (v := 1) hx hb dX5_comes_25 (by decide) ?_
    refine lv_iadd hx hb dX5_comes_26 ?_
    refine va_put (D := (dC, dI)) (ci := 5) (v := .int (et + 1)) (ty := .int) (C := RX5) (T := TX5) (N := 22) hx hb hts (by decide +kernel) tyX5 tyX5_ok nmX5 hown hK hP hD hS 0 rfl rfl 13 (by decide) (hts (.fieldLink RX5 67 RX5 "traced" "I") (by decide +kernel)) (fun _ h9 => h9) rfl (by decide +kernel) rfl rfl (Nat.le_of_ble_eq_true rfl) dX5_comes_27 (fun H locs hP hD hS => ?_)
    have hP : va_P (dC, dI) vwCl [(q5, .inr (5, [.int th, .ref q5a, .int ma, .ref q5b, .ref q5c, .int to, .ref q5d, .ref q5e, .ref q5f, .ref q5g, .ref q5h, .int rn, .int rf, .int (et + 1), .ref q5i, .int sp, .int ho, .int mo, .int cs, .int uw, .int wh, .int lo])), (q5a, .inl (cA, 6, .inl pl)), (q5b, .inl (cA, 60, .inl nu)), (q5c, .inl (cA, 60, .inl de)), (q5d, .inl (cA, 40, .inl si)), (q5e, .inl (cA, 480, .inl ki)), (q5f, .inl (cA, 480, .inl aa)), (q5g, .inl (cA, 480, .inl xx)), (q5h, .inl (cA, 480, .inl yy)), (q5i, .inl (cA, 250, .inl (upd en et.toNatClampNeg p0)))] H := hP
    have hD : va_D A [(q5, .inr (5, [.int th, .ref q5a, .int ma, .ref q5b, .ref q5c, .int to, .ref q5d, .ref q5e, .ref q5f, .ref q5g, .ref q5h, .int rn, .int rf, .int (et + 1), .ref q5i, .int sp, .int ho, .int mo, .int cs, .int uw, .int wh, .int lo])), (q5a, .inl (cA, 6, .inl pl)), (q5b, .inl (cA, 60, .inl nu)), (q5c, .inl (cA, 60, .inl de)), (q5d, .inl (cA, 40, .inl si)), (q5e, .inl (cA, 480, .inl ki)), (q5f, .inl (cA, 480, .inl aa)), (q5g, .inl (cA, 480, .inl xx)), (q5h, .inl (cA, 480, .inl yy)), (q5i, .inl (cA, 250, .inl (upd en et.toNatClampNeg p0)))] := hD
    exact rt_v hx hb hr hlocks (th, ma, to, rn, rf, (et + 1), sp, ho, mo, cs, uw, wh, lo, pl, nu, de, si, ki, aa, xx, yy, (upd en et.toNatClampNeg p0)) (by simp only [f_X5_comes, if_neg c_1]) hP hD hS dX5_comes_30
def f_X5_begin (th : Int32) (ma : Int32) (to : Int32) (rn : Int32) (rf : Int32) (et : Int32) (sp : Int32) (ho : Int32) (mo : Int32) (cs : Int32) (uw : Int32) (wh : Int32) (lo : Int32) (pl : Nat → Int32) (nu : Nat → Int32) (de : Nat → Int32) (si : Nat → Int32) (ki : Nat → Int32) (aa : Nat → Int32) (xx : Nat → Int32) (yy : Nat → Int32) (en : Nat → Int32) (p0 : Int32) : Int32 × Int32 × Int32 × Int32 × Int32 × Int32 × Int32 × Int32 × Int32 × Int32 × Int32 × Int32 × Int32 × (Nat → Int32) × (Nat → Int32) × (Nat → Int32) × (Nat → Int32) × (Nat → Int32) × (Nat → Int32) × (Nat → Int32) × (Nat → Int32) × (Nat → Int32) := (if (uw + 1) ≤ mo then (match f_X5_comes th ma to rn rf et sp (ho + 1) mo cs (uw + 1) wh lo pl nu (upd de p0.toNatClampNeg ((de p0.toNatClampNeg) + 1)) si ki aa xx yy en (1000 + p0) with | (th_2, ma_2, to_2, rn_2, rf_2, et_2, sp_2, ho_2, mo_2, cs_2, uw_2, wh_2, lo_2, pl_2, nu_2, de_2, si_2, ki_2, aa_2, xx_2, yy_2, en_2) => (th_2, ma_2, to_2, rn_2, rf_2, et_2, sp_2, ho_2, mo_2, cs_2, uw_2, wh_2, lo_2, pl_2, nu_2, de_2, si_2, ki_2, aa_2, xx_2, yy_2, en_2)) else (match f_X5_comes th ma to rn rf et sp (ho + 1) (uw + 1) cs (uw + 1) wh lo pl nu (upd de p0.toNatClampNeg ((de p0.toNatClampNeg) + 1)) si ki aa xx yy en (1000 + p0) with | (th_3, ma_3, to_3, rn_3, rf_3, et_3, sp_3, ho_3, mo_3, cs_3, uw_3, wh_3, lo_3, pl_3, nu_3, de_3, si_3, ki_3, aa_3, xx_3, yy_3, en_3) => (th_3, ma_3, to_3, rn_3, rf_3, et_3, sp_3, ho_3, mo_3, cs_3, uw_3, wh_3, lo_3, pl_3, nu_3, de_3, si_3, ki_3, aa_3, xx_3, yy_3, en_3)))
set_option maxHeartbeats 4000000 in
set_option maxRecDepth 100000 in
theorem c_X5_begin (l : Launch) (dC : Nat → ClassId) (dI : Nat → Nat → Nat) (cA : ClassId) (q5 q5a q5b q5c q5d q5e q5f q5g q5h q5i : Nat) (sz : Nat) (th : Int32) (ma : Int32) (to : Int32) (rn : Int32) (rf : Int32) (et : Int32) (sp : Int32) (ho : Int32) (mo : Int32) (cs : Int32) (uw : Int32) (wh : Int32) (lo : Int32) (pl : Nat → Int32) (nu : Nat → Int32) (de : Nat → Int32) (si : Nat → Int32) (ki : Nat → Int32) (aa : Nat → Int32) (xx : Nat → Int32) (yy : Nat → Int32) (en : Nat → Int32) (p0 : Int32) (ht : vp_in p0 60) (het : 0 ≤ et.toInt) : Met l yX5_begin wsX5_begin ({ frames := 1, cells := 0, slots := 0, locals := 21 }) (pcW (dC, dI) [(q5, .inr (5, [.int th, .ref q5a, .int ma, .ref q5b, .ref q5c, .int to, .ref q5d, .ref q5e, .ref q5f, .ref q5g, .ref q5h, .int rn, .int rf, .int et, .ref q5i, .int sp, .int ho, .int mo, .int cs, .int uw, .int wh, .int lo])), (q5a, .inl (cA, 6, .inl pl)), (q5b, .inl (cA, 60, .inl nu)), (q5c, .inl (cA, 60, .inl de)), (q5d, .inl (cA, 40, .inl si)), (q5e, .inl (cA, 480, .inl ki)), (q5f, .inl (cA, 480, .inl aa)), (q5g, .inl (cA, 480, .inl xx)), (q5h, .inl (cA, 480, .inl yy)), (q5i, .inl (cA, 250, .inl en))] [(cA, .int)] sz [.ref q5, .int p0]) (QWv (dC, dI) (f_X5_begin th ma to rn rf et sp ho mo cs uw wh lo pl nu de si ki aa xx yy en p0) (wd_mo cA q5 q5a q5b q5c q5d q5e q5f q5g q5h q5i) (va_A [(q5, .inr (5, [.int th, .ref q5a, .int ma, .ref q5b, .ref q5c, .int to, .ref q5d, .ref q5e, .ref q5f, .ref q5g, .ref q5h, .int rn, .int rf, .int et, .ref q5i, .int sp, .int ho, .int mo, .int cs, .int uw, .int wh, .int lo])), (q5a, .inl (cA, 6, .inl pl)), (q5b, .inl (cA, 60, .inl nu)), (q5c, .inl (cA, 60, .inl de)), (q5d, .inl (cA, 40, .inl si)), (q5e, .inl (cA, 480, .inl ki)), (q5f, .inl (cA, 480, .inl aa)), (q5g, .inl (cA, 480, .inl xx)), (q5h, .inl (cA, 480, .inl yy)), (q5i, .inl (cA, 250, .inl en))] sz)) 0 0 (va_A [(q5, .inr (5, [.int th, .ref q5a, .int ma, .ref q5b, .ref q5c, .int to, .ref q5d, .ref q5e, .ref q5f, .ref q5g, .ref q5h, .int rn, .int rf, .int et, .ref q5i, .int sp, .int ho, .int mo, .int cs, .int uw, .int wh, .int lo])), (q5a, .inl (cA, 6, .inl pl)), (q5b, .inl (cA, 60, .inl nu)), (q5c, .inl (cA, 60, .inl de)), (q5d, .inl (cA, 40, .inl si)), (q5e, .inl (cA, 480, .inl ki)), (q5f, .inl (cA, 480, .inl aa)), (q5g, .inl (cA, 480, .inl xx)), (q5h, .inl (cA, 480, .inl yy)), (q5i, .inl (cA, 250, .inl en))] sz) := by
  refine Met.ofW (cc := cX5_begin) (maxL := 2) (ret := none) (by decide) rfl ?_
  intro p e s m args below meth c s₁ B hml hv
  obtain ⟨rfl, hsz, hN, hP, hK, hD0⟩ := hv
  have hx := B.exec
  have hb := B.bytes
  have hr := B.returns
  have hts := atoms_spec (ws := wsX5_begin) B.pre
  have hown : s.vm.findClass RX5 = some m.cls := findClass_of_methodNamed B.named
  have hlocks := B.notSynchronized
  subst hsz
  have hD := hD0.self (sz := s.heap.size)
  generalize hAe : va_A [(q5, .inr (5, [.int th, .ref q5a, .int ma, .ref q5b, .ref q5c, .int to, .ref q5d, .ref q5e, .ref q5f, .ref q5g, .ref q5h, .int rn, .int rf, .int et, .ref q5i, .int sp, .int ho, .int mo, .int cs, .int uw, .int wh, .int lo])), (q5a, .inl (cA, 6, .inl pl)), (q5b, .inl (cA, 60, .inl nu)), (q5c, .inl (cA, 60, .inl de)), (q5d, .inl (cA, 40, .inl si)), (q5e, .inl (cA, 480, .inl ki)), (q5f, .inl (cA, 480, .inl aa)), (q5g, .inl (cA, 480, .inl xx)), (q5h, .inl (cA, 480, .inl yy)), (q5i, .inl (cA, 250, .inl en))] s.heap.size = A at hD ⊢
  have hA : ∀ q : Nat, s.heap.size ≤ q → A q := fun q h => by rw [← hAe]; exact Or.inr h
  have hS : va_S A s.heap s.heap [] := va_S.rf
  have hl := lv_entry ([.ref q5, .int p0]) (n := 2) (Nat.le_of_ble_eq_true rfl)
  rw [lg_entry_eq]
  generalize (lg_sl ([.ref q5, .int p0]) ++ List.replicate (2 - (lg_sl ([.ref q5, .int p0])).length) Slot.unset).toArray = ls at hl ⊢
  have hl : lv_has ls 2 [(0, .ref q5), (1, .int p0)] := hl
  refine lv_aload_n hx hb dX5_begin_0 rfl (lv_at hl 0 rfl) ?_
  refine lv_dup hx hb dX5_begin_1 rfl ?_
  refine va_get (D := (dC, dI)) (ci := 5) (v := .int ho) (C := RX5) (T := TX5) (N := 22) hx hb hts (by decide +kernel) hown hK hP 0 rfl rfl 16 (by decide) (hts (.fieldLink RX5 70 RX5 "holds" "I") (by decide +kernel)) (fun _ h9 => h9) rfl dX5_begin_2 ?_
  refine lv_iconst (v := 1) hx hb dX5_begin_5 (by decide) ?_
  refine lv_iadd hx hb dX5_begin_6 ?_
  refine va_put (D := (dC, dI)) (ci := 5) (v := .int (ho + 1)) (ty := .int) (C := RX5) (T := TX5) (N := 22) hx hb hts (by decide +kernel) tyX5 tyX5_ok nmX5 hown hK hP hD hS 0 rfl rfl 16 (by decide) (hts (.fieldLink RX5 70 RX5 "holds" "I") (by decide +kernel)) (fun _ h9 => h9) rfl (by decide +kernel) rfl rfl (Nat.le_of_ble_eq_true rfl) dX5_begin_7 (fun H locs hP hD hS => ?_)
  have hP : va_P (dC, dI) vwCl [(q5, .inr (5, [.int th, .ref q5a, .int ma, .ref q5b, .ref q5c, .int to, .ref q5d, .ref q5e, .ref q5f, .ref q5g, .ref q5h, .int rn, .int rf, .int et, .ref q5i, .int sp, .int (ho + 1), .int mo, .int cs, .int uw, .int wh, .int lo])), (q5a, .inl (cA, 6, .inl pl)), (q5b, .inl (cA, 60, .inl nu)), (q5c, .inl (cA, 60, .inl de)), (q5d, .inl (cA, 40, .inl si)), (q5e, .inl (cA, 480, .inl ki)), (q5f, .inl (cA, 480, .inl aa)), (q5g, .inl (cA, 480, .inl xx)), (q5h, .inl (cA, 480, .inl yy)), (q5i, .inl (cA, 250, .inl en))] H := hP
  have hD : va_D A [(q5, .inr (5, [.int th, .ref q5a, .int ma, .ref q5b, .ref q5c, .int to, .ref q5d, .ref q5e, .ref q5f, .ref q5g, .ref q5h, .int rn, .int rf, .int et, .ref q5i, .int sp, .int (ho + 1), .int mo, .int cs, .int uw, .int wh, .int lo])), (q5a, .inl (cA, 6, .inl pl)), (q5b, .inl (cA, 60, .inl nu)), (q5c, .inl (cA, 60, .inl de)), (q5d, .inl (cA, 40, .inl si)), (q5e, .inl (cA, 480, .inl ki)), (q5f, .inl (cA, 480, .inl aa)), (q5g, .inl (cA, 480, .inl xx)), (q5h, .inl (cA, 480, .inl yy)), (q5i, .inl (cA, 250, .inl en))] := hD
  refine lv_aload_n hx hb dX5_begin_10 rfl (lv_at hl 0 rfl) ?_
  refine lv_dup hx hb dX5_begin_11 rfl ?_
  refine va_get (D := (dC, dI)) (ci := 5) (v := .int uw) (C := RX5) (T := TX5) (N := 22) hx hb hts (by decide +kernel) hown hK hP 0 rfl rfl 19 (by decide) (hts (.fieldLink RX5 73 RX5 "underWay" "I") (by decide +kernel)) (fun _ h9 => h9) rfl dX5_begin_12 ?_
  refine lv_iconst (v := 1) hx hb dX5_begin_15 (by decide) ?_
  refine lv_iadd hx hb dX5_begin_16 ?_
  refine va_put (D := (dC, dI)) (ci := 5) (v := .int (uw + 1)) (ty := .int) (C := RX5) (T := TX5) (N := 22) hx hb hts (by decide +kernel) tyX5 tyX5_ok nmX5 hown hK hP hD hS 0 rfl rfl 19 (by decide) (hts (.fieldLink RX5 73 RX5 "underWay" "I") (by decide +kernel)) (fun _ h9 => h9) rfl (by decide +kernel) rfl rfl (Nat.le_of_ble_eq_true rfl) dX5_begin_17 (fun H locs hP hD hS => ?_)
  have hP : va_P (dC, dI) vwCl [(q5, .inr (5, [.int th, .ref q5a, .int ma, .ref q5b, .ref q5c, .int to, .ref q5d, .ref q5e, .ref q5f, .ref q5g, .ref q5h, .int rn, .int rf, .int et, .ref q5i, .int sp, .int (ho + 1), .int mo, .int cs, .int (uw + 1), .int wh, .int lo])), (q5a, .inl (cA, 6, .inl pl)), (q5b, .inl (cA, 60, .inl nu)), (q5c, .inl (cA, 60, .inl de)), (q5d, .inl (cA, 40, .inl si)), (q5e, .inl (cA, 480, .inl ki)), (q5f, .inl (cA, 480, .inl aa)), (q5g, .inl (cA, 480, .inl xx)), (q5h, .inl (cA, 480, .inl yy)), (q5i, .inl (cA, 250, .inl en))] H := hP
  have hD : va_D A [(q5, .inr (5, [.int th, .ref q5a, .int ma, .ref q5b, .ref q5c, .int to, .ref q5d, .ref q5e, .ref q5f, .ref q5g, .ref q5h, .int rn, .int rf, .int et, .ref q5i, .int sp, .int (ho + 1), .int mo, .int cs, .int (uw + 1), .int wh, .int lo])), (q5a, .inl (cA, 6, .inl pl)), (q5b, .inl (cA, 60, .inl nu)), (q5c, .inl (cA, 60, .inl de)), (q5d, .inl (cA, 40, .inl si)), (q5e, .inl (cA, 480, .inl ki)), (q5f, .inl (cA, 480, .inl aa)), (q5g, .inl (cA, 480, .inl xx)), (q5h, .inl (cA, 480, .inl yy)), (q5i, .inl (cA, 250, .inl en))] := hD
  refine lv_aload_n hx hb dX5_begin_20 rfl (lv_at hl 0 rfl) ?_
  refine lv_aload_n hx hb dX5_begin_21 rfl (lv_at hl 0 rfl) ?_
  refine va_get (D := (dC, dI)) (ci := 5) (v := .int (uw + 1)) (C := RX5) (T := TX5) (N := 22) hx hb hts (by decide +kernel) hown hK hP 0 rfl rfl 19 (by decide) (hts (.fieldLink RX5 73 RX5 "underWay" "I") (by decide +kernel)) (fun _ h9 => h9) rfl dX5_begin_22 ?_
  refine lv_aload_n hx hb dX5_begin_25 rfl (lv_at hl 0 rfl) ?_
  refine va_get (D := (dC, dI)) (ci := 5) (v := .int mo) (C := RX5) (T := TX5) (N := 22) hx hb hts (by decide +kernel) hown hK hP 0 rfl rfl 17 (by decide) (hts (.fieldLink RX5 76 RX5 "most" "I") (by decide +kernel)) (fun _ h9 => h9) rfl dX5_begin_26 ?_
  refine lv_icmp_le (tgt := 39) hx hb dX5_begin_29 (by decide) (fun c_1 => ?_) (fun c_1 => ?_)
  · refine lv_aload_n hx hb dX5_begin_39 rfl (lv_at hl 0 rfl) ?_
    refine va_get (D := (dC, dI)) (ci := 5) (v := .int mo) (C := RX5) (T := TX5) (N := 22) hx hb hts (by decide +kernel) hown hK hP 0 rfl rfl 17 (by decide) (hts (.fieldLink RX5 76 RX5 "most" "I") (by decide +kernel)) (fun _ h9 => h9) rfl dX5_begin_40 ?_
    refine va_put (D := (dC, dI)) (ci := 5) (v := .int mo) (ty := .int) (C := RX5) (T := TX5) (N := 22) hx hb hts (by decide +kernel) tyX5 tyX5_ok nmX5 hown hK hP hD hS 0 rfl rfl 17 (by decide) (hts (.fieldLink RX5 76 RX5 "most" "I") (by decide +kernel)) (fun _ h9 => h9) rfl (by decide +kernel) rfl rfl (Nat.le_of_ble_eq_true rfl) dX5_begin_43 (fun H locs hP hD hS => ?_)
    have hP : va_P (dC, dI) vwCl [(q5, .inr (5, [.int th, .ref q5a, .int ma, .ref q5b, .ref q5c, .int to, .ref q5d, .ref q5e, .ref q5f, .ref q5g, .ref q5h, .int rn, .int rf, .int et, .ref q5i, .int sp, .int (ho + 1), .int mo, .int cs, .int (uw + 1), .int wh, .int lo])), (q5a, .inl (cA, 6, .inl pl)), (q5b, .inl (cA, 60, .inl nu)), (q5c, .inl (cA, 60, .inl de)), (q5d, .inl (cA, 40, .inl si)), (q5e, .inl (cA, 480, .inl ki)), (q5f, .inl (cA, 480, .inl aa)), (q5g, .inl (cA, 480, .inl xx)), (q5h, .inl (cA, 480, .inl yy)), (q5i, .inl (cA, 250, .inl en))] H := hP
    have hD : va_D A [(q5, .inr (5, [.int th, .ref q5a, .int ma, .ref q5b, .ref q5c, .int to, .ref q5d, .ref q5e, .ref q5f, .ref q5g, .ref q5h, .int rn, .int rf, .int et, .ref q5i, .int sp, .int (ho + 1), .int mo, .int cs, .int (uw + 1), .int wh, .int lo])), (q5a, .inl (cA, 6, .inl pl)), (q5b, .inl (cA, 60, .inl nu)), (q5c, .inl (cA, 60, .inl de)), (q5d, .inl (cA, 40, .inl si)), (q5e, .inl (cA, 480, .inl ki)), (q5f, .inl (cA, 480, .inl aa)), (q5g, .inl (cA, 480, .inl xx)), (q5h, .inl (cA, 480, .inl yy)), (q5i, .inl (cA, 250, .inl en))] := hD
    refine lv_aload_n hx hb dX5_begin_46 rfl (lv_at hl 0 rfl) ?_
    refine va_get (D := (dC, dI)) (ci := 5) (v := .ref q5c) (C := RX5) (T := TX5) (N := 22) hx hb hts (by decide +kernel) hown hK hP 0 rfl rfl 4 (by decide) (hts (.fieldLink RX5 16 RX5 "depth" "[I") (by decide +kernel)) (fun _ h9 => h9) rfl dX5_begin_47 ?_
    refine lv_iload_n hx hb dX5_begin_50 rfl (lv_at hl 1 rfl) ?_
    refine lv_dup2_11 hx hb dX5_begin_51 rfl rfl ?_
    refine va_iald hx hb hK hP 3 0 rfl rfl ht dX5_begin_52 ?_
    refine lv_iconst (v := 1) hx hb dX5_begin_53 (by decide) ?_
    refine lv_iadd hx hb dX5_begin_54 ?_
    refine va_iast hx hb hK hP hD hS 3 0 rfl rfl ht dX5_begin_55 (fun H locs hP hD hS => ?_)
    have hP : va_P (dC, dI) vwCl [(q5, .inr (5, [.int th, .ref q5a, .int ma, .ref q5b, .ref q5c, .int to, .ref q5d, .ref q5e, .ref q5f, .ref q5g, .ref q5h, .int rn, .int rf, .int et, .ref q5i, .int sp, .int (ho + 1), .int mo, .int cs, .int (uw + 1), .int wh, .int lo])), (q5a, .inl (cA, 6, .inl pl)), (q5b, .inl (cA, 60, .inl nu)), (q5c, .inl (cA, 60, .inl (upd de p0.toNatClampNeg ((de p0.toNatClampNeg) + 1)))), (q5d, .inl (cA, 40, .inl si)), (q5e, .inl (cA, 480, .inl ki)), (q5f, .inl (cA, 480, .inl aa)), (q5g, .inl (cA, 480, .inl xx)), (q5h, .inl (cA, 480, .inl yy)), (q5i, .inl (cA, 250, .inl en))] H := hP
    have hD : va_D A [(q5, .inr (5, [.int th, .ref q5a, .int ma, .ref q5b, .ref q5c, .int to, .ref q5d, .ref q5e, .ref q5f, .ref q5g, .ref q5h, .int rn, .int rf, .int et, .ref q5i, .int sp, .int (ho + 1), .int mo, .int cs, .int (uw + 1), .int wh, .int lo])), (q5a, .inl (cA, 6, .inl pl)), (q5b, .inl (cA, 60, .inl nu)), (q5c, .inl (cA, 60, .inl (upd de p0.toNatClampNeg ((de p0.toNatClampNeg) + 1)))), (q5d, .inl (cA, 40, .inl si)), (q5e, .inl (cA, 480, .inl ki)), (q5f, .inl (cA, 480, .inl aa)), (q5g, .inl (cA, 480, .inl xx)), (q5h, .inl (cA, 480, .inl yy)), (q5i, .inl (cA, 250, .inl en))] := hD
    refine lv_aload_n hx hb dX5_begin_56 rfl (lv_at hl 0 rfl) ?_
    refine lv_sipush (v := 1000) hx hb dX5_begin_57 (by decide) ?_
    refine lv_iload_n hx hb dX5_begin_60 rfl (lv_at hl 1 rfl) ?_
    refine lv_iadd hx hb dX5_begin_61 ?_
    refine kx_wv (wr := []) hP hD hS hA [0, 1, 2, 3, 4, 5, 6, 7, 8, 9] [] rfl rfl (by decide) (by decide) (va_runV (As := [.int (1000 + p0)]) (rest := []) ⟨hx, hb, hml, hown, hts⟩ (c_X5_comes l dC dI cA q5 q5a q5b q5c q5d q5e q5f q5g q5h q5i H.size th ma to rn rf et sp (ho + 1) mo cs (uw + 1) wh lo pl nu (upd de p0.toNatClampNeg ((de p0.toNatClampNeg) + 1)) si ki aa xx yy en (1000 + p0) het) (cwV 1 hts gX5_begin_X5_comes rfl rfl rfl (by decide +kernel) ⟨(Nat.le_of_ble_eq_true rfl), (Nat.le_of_ble_eq_true rfl)⟩) (pW hN (hP.sub (ws' := [(q5, .inr (5, [.int th, .ref q5a, .int ma, .ref q5b, .ref q5c, .int to, .ref q5d, .ref q5e, .ref q5f, .ref q5g, .ref q5h, .int rn, .int rf, .int et, .ref q5i, .int sp, .int (ho + 1), .int mo, .int cs, .int (uw + 1), .int wh, .int lo])), (q5a, .inl (cA, 6, .inl pl)), (q5b, .inl (cA, 60, .inl nu)), (q5c, .inl (cA, 60, .inl (upd de p0.toNatClampNeg ((de p0.toNatClampNeg) + 1)))), (q5d, .inl (cA, 40, .inl si)), (q5e, .inl (cA, 480, .inl ki)), (q5f, .inl (cA, 480, .inl aa)), (q5g, .inl (cA, 480, .inl xx)), (q5h, .inl (cA, 480, .inl yy)), (q5i, .inl (cA, 250, .inl en))]) [0, 1, 2, 3, 4, 5, 6, 7, 8, 9] rfl) hK (hD.sub (ws' := [(q5, .inr (5, [.int th, .ref q5a, .int ma, .ref q5b, .ref q5c, .int to, .ref q5d, .ref q5e, .ref q5f, .ref q5g, .ref q5h, .int rn, .int rf, .int et, .ref q5i, .int sp, .int (ho + 1), .int mo, .int cs, .int (uw + 1), .int wh, .int lo])), (q5a, .inl (cA, 6, .inl pl)), (q5b, .inl (cA, 60, .inl nu)), (q5c, .inl (cA, 60, .inl (upd de p0.toNatClampNeg ((de p0.toNatClampNeg) + 1)))), (q5d, .inl (cA, 40, .inl si)), (q5e, .inl (cA, 480, .inl ki)), (q5f, .inl (cA, 480, .inl aa)), (q5g, .inl (cA, 480, .inl xx)), (q5h, .inl (cA, 480, .inl yy)), (q5i, .inl (cA, 250, .inl en))]) [0, 1, 2, 3, 4, 5, 6, 7, 8, 9] (by decide) rfl) (ci := 5) (q0 := 0) rfl rfl rfl) rfl rfl hl.1 rfl (lv_room (Nat.le_of_ble_eq_true rfl)) dX5_begin_62 ⟨Nat.zero_le _, Nat.zero_le _⟩) (fun u_2 H locs hw_2 hP hD hS => ?_)
    obtain ⟨th_2, ma_2, to_2, rn_2, rf_2, et_2, sp_2, ho_2, mo_2, cs_2, uw_2, wh_2, lo_2, pl_2, nu_2, de_2, si_2, ki_2, aa_2, xx_2, yy_2, en_2⟩ := u_2
    have hP : va_P (dC, dI) vwCl [(q5, .inr (5, [.int th_2, .ref q5a, .int ma_2, .ref q5b, .ref q5c, .int to_2, .ref q5d, .ref q5e, .ref q5f, .ref q5g, .ref q5h, .int rn_2, .int rf_2, .int et_2, .ref q5i, .int sp_2, .int ho_2, .int mo_2, .int cs_2, .int uw_2, .int wh_2, .int lo_2])), (q5a, .inl (cA, 6, .inl pl_2)), (q5b, .inl (cA, 60, .inl nu_2)), (q5c, .inl (cA, 60, .inl de_2)), (q5d, .inl (cA, 40, .inl si_2)), (q5e, .inl (cA, 480, .inl ki_2)), (q5f, .inl (cA, 480, .inl aa_2)), (q5g, .inl (cA, 480, .inl xx_2)), (q5h, .inl (cA, 480, .inl yy_2)), (q5i, .inl (cA, 250, .inl en_2))] H := hP
    have hD : va_D A [(q5, .inr (5, [.int th_2, .ref q5a, .int ma_2, .ref q5b, .ref q5c, .int to_2, .ref q5d, .ref q5e, .ref q5f, .ref q5g, .ref q5h, .int rn_2, .int rf_2, .int et_2, .ref q5i, .int sp_2, .int ho_2, .int mo_2, .int cs_2, .int uw_2, .int wh_2, .int lo_2])), (q5a, .inl (cA, 6, .inl pl_2)), (q5b, .inl (cA, 60, .inl nu_2)), (q5c, .inl (cA, 60, .inl de_2)), (q5d, .inl (cA, 40, .inl si_2)), (q5e, .inl (cA, 480, .inl ki_2)), (q5f, .inl (cA, 480, .inl aa_2)), (q5g, .inl (cA, 480, .inl xx_2)), (q5h, .inl (cA, 480, .inl yy_2)), (q5i, .inl (cA, 250, .inl en_2))] := hD
    exact rt_v hx hb hr hlocks (th_2, ma_2, to_2, rn_2, rf_2, et_2, sp_2, ho_2, mo_2, cs_2, uw_2, wh_2, lo_2, pl_2, nu_2, de_2, si_2, ki_2, aa_2, xx_2, yy_2, en_2) (by simp only [f_X5_begin, if_pos c_1, ← hw_2]) hP hD hS dX5_begin_65
  · refine lv_aload_n hx hb dX5_begin_32 rfl (lv_at hl 0 rfl) ?_
    refine va_get (D := (dC, dI)) (ci := 5) (v := .int (uw + 1)) (C := RX5) (T := TX5) (N := 22) hx hb hts (by decide +kernel) hown hK hP 0 rfl rfl 19 (by decide) (hts (.fieldLink RX5 73 RX5 "underWay" "I") (by decide +kernel)) (fun _ h9 => h9) rfl dX5_begin_33 ?_
    refine lv_goto (tgt := 43) hx hb dX5_begin_36 (by decide) ?_
    refine va_put (D := (dC, dI)) (ci := 5) (v := .int (uw + 1)) (ty := .int) (C := RX5) (T := TX5) (N := 22) hx hb hts (by decide +kernel) tyX5 tyX5_ok nmX5 hown hK hP hD hS 0 rfl rfl 17 (by decide) (hts (.fieldLink RX5 76 RX5 "most" "I") (by decide +kernel)) (fun _ h9 => h9) rfl (by decide +kernel) rfl rfl (Nat.le_of_ble_eq_true rfl) dX5_begin_43 (fun H locs hP hD hS => ?_)
    have hP : va_P (dC, dI) vwCl [(q5, .inr (5, [.int th, .ref q5a, .int ma, .ref q5b, .ref q5c, .int to, .ref q5d, .ref q5e, .ref q5f, .ref q5g, .ref q5h, .int rn, .int rf, .int et, .ref q5i, .int sp, .int (ho + 1), .int (uw + 1), .int cs, .int (uw + 1), .int wh, .int lo])), (q5a, .inl (cA, 6, .inl pl)), (q5b, .inl (cA, 60, .inl nu)), (q5c, .inl (cA, 60, .inl de)), (q5d, .inl (cA, 40, .inl si)), (q5e, .inl (cA, 480, .inl ki)), (q5f, .inl (cA, 480, .inl aa)), (q5g, .inl (cA, 480, .inl xx)), (q5h, .inl (cA, 480, .inl yy)), (q5i, .inl (cA, 250, .inl en))] H := hP
    have hD : va_D A [(q5, .inr (5, [.int th, .ref q5a, .int ma, .ref q5b, .ref q5c, .int to, .ref q5d, .ref q5e, .ref q5f, .ref q5g, .ref q5h, .int rn, .int rf, .int et, .ref q5i, .int sp, .int (ho + 1), .int (uw + 1), .int cs, .int (uw + 1), .int wh, .int lo])), (q5a, .inl (cA, 6, .inl pl)), (q5b, .inl (cA, 60, .inl nu)), (q5c, .inl (cA, 60, .inl de)), (q5d, .inl (cA, 40, .inl si)), (q5e, .inl (cA, 480, .inl ki)), (q5f, .inl (cA, 480, .inl aa)), (q5g, .inl (cA, 480, .inl xx)), (q5h, .inl (cA, 480, .inl yy)), (q5i, .inl (cA, 250, .inl en))] := hD
    refine lv_aload_n hx hb dX5_begin_46 rfl (lv_at hl 0 rfl) ?_
    refine va_get (D := (dC, dI)) (ci := 5) (v := .ref q5c) (C := RX5) (T := TX5) (N := 22) hx hb hts (by decide +kernel) hown hK hP 0 rfl rfl 4 (by decide) (hts (.fieldLink RX5 16 RX5 "depth" "[I") (by decide +kernel)) (fun _ h9 => h9) rfl dX5_begin_47 ?_
    refine lv_iload_n hx hb dX5_begin_50 rfl (lv_at hl 1 rfl) ?_
    refine lv_dup2_11 hx hb dX5_begin_51 rfl rfl ?_
    refine va_iald hx hb hK hP 3 0 rfl rfl ht dX5_begin_52 ?_
    refine lv_iconst (v := 1) hx hb dX5_begin_53 (by decide) ?_
    refine lv_iadd hx hb dX5_begin_54 ?_
    refine va_iast hx hb hK hP hD hS 3 0 rfl rfl ht dX5_begin_55 (fun H locs hP hD hS => ?_)
    have hP : va_P (dC, dI) vwCl [(q5, .inr (5, [.int th, .ref q5a, .int ma, .ref q5b, .ref q5c, .int to, .ref q5d, .ref q5e, .ref q5f, .ref q5g, .ref q5h, .int rn, .int rf, .int et, .ref q5i, .int sp, .int (ho + 1), .int (uw + 1), .int cs, .int (uw + 1), .int wh, .int lo])), (q5a, .inl (cA, 6, .inl pl)), (q5b, .inl (cA, 60, .inl nu)), (q5c, .inl (cA, 60, .inl (upd de p0.toNatClampNeg ((de p0.toNatClampNeg) + 1)))), (q5d, .inl (cA, 40, .inl si)), (q5e, .inl (cA, 480, .inl ki)), (q5f, .inl (cA, 480, .inl aa)), (q5g, .inl (cA, 480, .inl xx)), (q5h, .inl (cA, 480, .inl yy)), (q5i, .inl (cA, 250, .inl en))] H := hP
    have hD : va_D A [(q5, .inr (5, [.int th, .ref q5a, .int ma, .ref q5b, .ref q5c, .int to, .ref q5d, .ref q5e, .ref q5f, .ref q5g, .ref q5h, .int rn, .int rf, .int et, .ref q5i, .int sp, .int (ho + 1), .int (uw + 1), .int cs, .int (uw + 1), .int wh, .int lo])), (q5a, .inl (cA, 6, .inl pl)), (q5b, .inl (cA, 60, .inl nu)), (q5c, .inl (cA, 60, .inl (upd de p0.toNatClampNeg ((de p0.toNatClampNeg) + 1)))), (q5d, .inl (cA, 40, .inl si)), (q5e, .inl (cA, 480, .inl ki)), (q5f, .inl (cA, 480, .inl aa)), (q5g, .inl (cA, 480, .inl xx)), (q5h, .inl (cA, 480, .inl yy)), (q5i, .inl (cA, 250, .inl en))] := hD
    refine lv_aload_n hx hb dX5_begin_56 rfl (lv_at hl 0 rfl) ?_
    refine lv_sipush (v := 1000) hx hb dX5_begin_57 (by decide) ?_
    refine lv_iload_n hx hb dX5_begin_60 rfl (lv_at hl 1 rfl) ?_
    refine lv_iadd hx hb dX5_begin_61 ?_
    refine kx_wv (wr := []) hP hD hS hA [0, 1, 2, 3, 4, 5, 6, 7, 8, 9] [] rfl rfl (by decide) (by decide) (va_runV (As := [.int (1000 + p0)]) (rest := []) ⟨hx, hb, hml, hown, hts⟩ (c_X5_comes l dC dI cA q5 q5a q5b q5c q5d q5e q5f q5g q5h q5i H.size th ma to rn rf et sp (ho + 1) (uw + 1) cs (uw + 1) wh lo pl nu (upd de p0.toNatClampNeg ((de p0.toNatClampNeg) + 1)) si ki aa xx yy en (1000 + p0) het) (cwV 1 hts gX5_begin_X5_comes rfl rfl rfl (by decide +kernel) ⟨(Nat.le_of_ble_eq_true rfl), (Nat.le_of_ble_eq_true rfl)⟩) (pW hN (hP.sub (ws' := [(q5, .inr (5, [.int th, .ref q5a, .int ma, .ref q5b, .ref q5c, .int to, .ref q5d, .ref q5e, .ref q5f, .ref q5g, .ref q5h, .int rn, .int rf, .int et, .ref q5i, .int sp, .int (ho + 1), .int (uw + 1), .int cs, .int (uw + 1), .int wh, .int lo])), (q5a, .inl (cA, 6, .inl pl)), (q5b, .inl (cA, 60, .inl nu)), (q5c, .inl (cA, 60, .inl (upd de p0.toNatClampNeg ((de p0.toNatClampNeg) + 1)))), (q5d, .inl (cA, 40, .inl si)), (q5e, .inl (cA, 480, .inl ki)), (q5f, .inl (cA, 480, .inl aa)), (q5g, .inl (cA, 480, .inl xx)), (q5h, .inl (cA, 480, .inl yy)), (q5i, .inl (cA, 250, .inl en))]) [0, 1, 2, 3, 4, 5, 6, 7, 8, 9] rfl) hK (hD.sub (ws' := [(q5, .inr (5, [.int th, .ref q5a, .int ma, .ref q5b, .ref q5c, .int to, .ref q5d, .ref q5e, .ref q5f, .ref q5g, .ref q5h, .int rn, .int rf, .int et, .ref q5i, .int sp, .int (ho + 1), .int (uw + 1), .int cs, .int (uw + 1), .int wh, .int lo])), (q5a, .inl (cA, 6, .inl pl)), (q5b, .inl (cA, 60, .inl nu)), (q5c, .inl (cA, 60, .inl (upd de p0.toNatClampNeg ((de p0.toNatClampNeg) + 1)))), (q5d, .inl (cA, 40, .inl si)), (q5e, .inl (cA, 480, .inl ki)), (q5f, .inl (cA, 480, .inl aa)), (q5g, .inl (cA, 480, .inl xx)), (q5h, .inl (cA, 480, .inl yy)), (q5i, .inl (cA, 250, .inl en))]) [0, 1, 2, 3, 4, 5, 6, 7, 8, 9] (by decide) rfl) (ci := 5) (q0 := 0) rfl rfl rfl) rfl rfl hl.1 rfl (lv_room (Nat.le_of_ble_eq_true rfl)) dX5_begin_62 ⟨Nat.zero_le _, Nat.zero_le _⟩) (fun u_3 H locs hw_3 hP hD hS => ?_)
    obtain ⟨th_3, ma_3, to_3, rn_3, rf_3, et_3, sp_3, ho_3, mo_3, cs_3, uw_3, wh_3, lo_3, pl_3, nu_3, de_3, si_3, ki_3, aa_3, xx_3, yy_3, en_3⟩ := u_3
    have hP : va_P (dC, dI) vwCl [(q5, .inr (5, [.int th_3, .ref q5a, .int ma_3, .ref q5b, .ref q5c, .int to_3, .ref q5d, .ref q5e, .ref q5f, .ref q5g, .ref q5h, .int rn_3, .int rf_3, .int et_3, .ref q5i, .int sp_3, .int ho_3, .int mo_3, .int cs_3, .int uw_3, .int wh_3, .int lo_3])), (q5a, .inl (cA, 6, .inl pl_3)), (q5b, .inl (cA, 60, .inl nu_3)), (q5c, .inl (cA, 60, .inl de_3)), (q5d, .inl (cA, 40, .inl si_3)), (q5e, .inl (cA, 480, .inl ki_3)), (q5f, .inl (cA, 480, .inl aa_3)), (q5g, .inl (cA, 480, .inl xx_3)), (q5h, .inl (cA, 480, .inl yy_3)), (q5i, .inl (cA, 250, .inl en_3))] H := hP
    have hD : va_D A [(q5, .inr (5, [.int th_3, .ref q5a, .int ma_3, .ref q5b, .ref q5c, .int to_3, .ref q5d, .ref q5e, .ref q5f, .ref q5g, .ref q5h, .int rn_3, .int rf_3, .int et_3, .ref q5i, .int sp_3, .int ho_3, .int mo_3, .int cs_3, .int uw_3, .int wh_3, .int lo_3])), (q5a, .inl (cA, 6, .inl pl_3)), (q5b, .inl (cA, 60, .inl nu_3)), (q5c, .inl (cA, 60, .inl de_3)), (q5d, .inl (cA, 40, .inl si_3)), (q5e, .inl (cA, 480, .inl ki_3)), (q5f, .inl (cA, 480, .inl aa_3)), (q5g, .inl (cA, 480, .inl xx_3)), (q5h, .inl (cA, 480, .inl yy_3)), (q5i, .inl (cA, 250, .inl en_3))] := hD
    exact rt_v hx hb hr hlocks (th_3, ma_3, to_3, rn_3, rf_3, et_3, sp_3, ho_3, mo_3, cs_3, uw_3, wh_3, lo_3, pl_3, nu_3, de_3, si_3, ki_3, aa_3, xx_3, yy_3, en_3) (by simp only [f_X5_begin, if_neg c_1, ← hw_3]) hP hD hS dX5_begin_65
def f_X5_leave (th : Int32) (ma : Int32) (to : Int32) (rn : Int32) (rf : Int32) (et : Int32) (sp : Int32) (ho : Int32) (mo : Int32) (cs : Int32) (uw : Int32) (wh : Int32) (lo : Int32) (pl : Nat → Int32) (nu : Nat → Int32) (de : Nat → Int32) (si : Nat → Int32) (ki : Nat → Int32) (aa : Nat → Int32) (xx : Nat → Int32) (yy : Nat → Int32) (en : Nat → Int32) (p0 : Int32) (p1 : Int32) : Int32 × Int32 × Int32 × Int32 × Int32 × Int32 × Int32 × Int32 × Int32 × Int32 × Int32 × Int32 × Int32 × (Nat → Int32) × (Nat → Int32) × (Nat → Int32) × (Nat → Int32) × (Nat → Int32) × (Nat → Int32) × (Nat → Int32) × (Nat → Int32) × (Nat → Int32) := (if p1 < 4 then (match f_X5_comes th ma to rn rf et sp ho mo (cs + 0) (uw - 1) wh lo pl nu (upd de p0.toNatClampNeg ((de p0.toNatClampNeg) - 1)) si ki aa xx yy en ((2000 + (100 * p1)) + p0) with | (th_2, ma_2, to_2, rn_2, rf_2, et_2, sp_2, ho_2, mo_2, cs_2, uw_2, wh_2, lo_2, pl_2, nu_2, de_2, si_2, ki_2, aa_2, xx_2, yy_2, en_2) => (th_2, ma_2, to_2, rn_2, rf_2, et_2, sp_2, ho_2, mo_2, cs_2, uw_2, wh_2, lo_2, pl_2, nu_2, de_2, si_2, ki_2, aa_2, xx_2, yy_2, en_2)) else (match f_X5_comes th ma to rn rf et sp ho mo (cs + 1) (uw - 1) wh lo pl nu (upd de p0.toNatClampNeg ((de p0.toNatClampNeg) - 1)) si ki aa xx yy en ((2000 + (100 * p1)) + p0) with | (th_3, ma_3, to_3, rn_3, rf_3, et_3, sp_3, ho_3, mo_3, cs_3, uw_3, wh_3, lo_3, pl_3, nu_3, de_3, si_3, ki_3, aa_3, xx_3, yy_3, en_3) => (th_3, ma_3, to_3, rn_3, rf_3, et_3, sp_3, ho_3, mo_3, cs_3, uw_3, wh_3, lo_3, pl_3, nu_3, de_3, si_3, ki_3, aa_3, xx_3, yy_3, en_3)))
set_option maxHeartbeats 4000000 in
set_option maxRecDepth 100000 in
theorem c_X5_leave (l : Launch) (dC : Nat → ClassId) (dI : Nat → Nat → Nat) (cA : ClassId) (q5 q5a q5b q5c q5d q5e q5f q5g q5h q5i : Nat) (sz : Nat) (th : Int32) (ma : Int32) (to : Int32) (rn : Int32) (rf : Int32) (et : Int32) (sp : Int32) (ho : Int32) (mo : Int32) (cs : Int32) (uw : Int32) (wh : Int32) (lo : Int32) (pl : Nat → Int32) (nu : Nat → Int32) (de : Nat → Int32) (si : Nat → Int32) (ki : Nat → Int32) (aa : Nat → Int32) (xx : Nat → Int32) (yy : Nat → Int32) (en : Nat → Int32) (p0 : Int32) (p1 : Int32) (ht : vp_in p0 60) (het : 0 ≤ et.toInt) : Met l yX5_leave wsX5_leave ({ frames := 1, cells := 0, slots := 0, locals := 21 }) (pcW (dC, dI) [(q5, .inr (5, [.int th, .ref q5a, .int ma, .ref q5b, .ref q5c, .int to, .ref q5d, .ref q5e, .ref q5f, .ref q5g, .ref q5h, .int rn, .int rf, .int et, .ref q5i, .int sp, .int ho, .int mo, .int cs, .int uw, .int wh, .int lo])), (q5a, .inl (cA, 6, .inl pl)), (q5b, .inl (cA, 60, .inl nu)), (q5c, .inl (cA, 60, .inl de)), (q5d, .inl (cA, 40, .inl si)), (q5e, .inl (cA, 480, .inl ki)), (q5f, .inl (cA, 480, .inl aa)), (q5g, .inl (cA, 480, .inl xx)), (q5h, .inl (cA, 480, .inl yy)), (q5i, .inl (cA, 250, .inl en))] [(cA, .int)] sz [.ref q5, .int p0, .int p1]) (QWv (dC, dI) (f_X5_leave th ma to rn rf et sp ho mo cs uw wh lo pl nu de si ki aa xx yy en p0 p1) (wd_mo cA q5 q5a q5b q5c q5d q5e q5f q5g q5h q5i) (va_A [(q5, .inr (5, [.int th, .ref q5a, .int ma, .ref q5b, .ref q5c, .int to, .ref q5d, .ref q5e, .ref q5f, .ref q5g, .ref q5h, .int rn, .int rf, .int et, .ref q5i, .int sp, .int ho, .int mo, .int cs, .int uw, .int wh, .int lo])), (q5a, .inl (cA, 6, .inl pl)), (q5b, .inl (cA, 60, .inl nu)), (q5c, .inl (cA, 60, .inl de)), (q5d, .inl (cA, 40, .inl si)), (q5e, .inl (cA, 480, .inl ki)), (q5f, .inl (cA, 480, .inl aa)), (q5g, .inl (cA, 480, .inl xx)), (q5h, .inl (cA, 480, .inl yy)), (q5i, .inl (cA, 250, .inl en))] sz)) 0 0 (va_A [(q5, .inr (5, [.int th, .ref q5a, .int ma, .ref q5b, .ref q5c, .int to, .ref q5d, .ref q5e, .ref q5f, .ref q5g, .ref q5h, .int rn, .int rf, .int et, .ref q5i, .int sp, .int ho, .int mo, .int cs, .int uw, .int wh, .int lo])), (q5a, .inl (cA, 6, .inl pl)), (q5b, .inl (cA, 60, .inl nu)), (q5c, .inl (cA, 60, .inl de)), (q5d, .inl (cA, 40, .inl si)), (q5e, .inl (cA, 480, .inl ki)), (q5f, .inl (cA, 480, .inl aa)), (q5g, .inl (cA, 480, .inl xx)), (q5h, .inl (cA, 480, .inl yy)), (q5i, .inl (cA, 250, .inl en))] sz) := by
  refine Met.ofW (cc := cX5_leave) (maxL := 3) (ret := none) (by decide) rfl ?_
  intro p e s m args below meth c s₁ B hml hv
  obtain ⟨rfl, hsz, hN, hP, hK, hD0⟩ := hv
  have hx := B.exec
  have hb := B.bytes
  have hr := B.returns
  have hts := atoms_spec (ws := wsX5_leave) B.pre
  have hown : s.vm.findClass RX5 = some m.cls := findClass_of_methodNamed B.named
  have hlocks := B.notSynchronized
  subst hsz
  have hD := hD0.self (sz := s.heap.size)
  generalize hAe : va_A [(q5, .inr (5, [.int th, .ref q5a, .int ma, .ref q5b, .ref q5c, .int to, .ref q5d, .ref q5e, .ref q5f, .ref q5g, .ref q5h, .int rn, .int rf, .int et, .ref q5i, .int sp, .int ho, .int mo, .int cs, .int uw, .int wh, .int lo])), (q5a, .inl (cA, 6, .inl pl)), (q5b, .inl (cA, 60, .inl nu)), (q5c, .inl (cA, 60, .inl de)), (q5d, .inl (cA, 40, .inl si)), (q5e, .inl (cA, 480, .inl ki)), (q5f, .inl (cA, 480, .inl aa)), (q5g, .inl (cA, 480, .inl xx)), (q5h, .inl (cA, 480, .inl yy)), (q5i, .inl (cA, 250, .inl en))] s.heap.size = A at hD ⊢
  have hA : ∀ q : Nat, s.heap.size ≤ q → A q := fun q h => by rw [← hAe]; exact Or.inr h
  have hS : va_S A s.heap s.heap [] := va_S.rf
  have hl := lv_entry ([.ref q5, .int p0, .int p1]) (n := 3) (Nat.le_of_ble_eq_true rfl)
  rw [lg_entry_eq]
  generalize (lg_sl ([.ref q5, .int p0, .int p1]) ++ List.replicate (3 - (lg_sl ([.ref q5, .int p0, .int p1])).length) Slot.unset).toArray = ls at hl ⊢
  have hl : lv_has ls 3 [(0, .ref q5), (1, .int p0), (2, .int p1)] := hl
  refine lv_aload_n hx hb dX5_leave_0 rfl (lv_at hl 0 rfl) ?_
  refine lv_dup hx hb dX5_leave_1 rfl ?_
  refine va_get (D := (dC, dI)) (ci := 5) (v := .int uw) (C := RX5) (T := TX5) (N := 22) hx hb hts (by decide +kernel) hown hK hP 0 rfl rfl 19 (by decide) (hts (.fieldLink RX5 73 RX5 "underWay" "I") (by decide +kernel)) (fun _ h9 => h9) rfl dX5_leave_2 ?_
  refine lv_iconst (v := 1) hx hb dX5_leave_5 (by decide) ?_
  refine lv_isub hx hb dX5_leave_6 ?_
  refine va_put (D := (dC, dI)) (ci := 5) (v := .int (uw - 1)) (ty := .int) (C := RX5) (T := TX5) (N := 22) hx hb hts (by decide +kernel) tyX5 tyX5_ok nmX5 hown hK hP hD hS 0 rfl rfl 19 (by decide) (hts (.fieldLink RX5 73 RX5 "underWay" "I") (by decide +kernel)) (fun _ h9 => h9) rfl (by decide +kernel) rfl rfl (Nat.le_of_ble_eq_true rfl) dX5_leave_7 (fun H locs hP hD hS => ?_)
  have hP : va_P (dC, dI) vwCl [(q5, .inr (5, [.int th, .ref q5a, .int ma, .ref q5b, .ref q5c, .int to, .ref q5d, .ref q5e, .ref q5f, .ref q5g, .ref q5h, .int rn, .int rf, .int et, .ref q5i, .int sp, .int ho, .int mo, .int cs, .int (uw - 1), .int wh, .int lo])), (q5a, .inl (cA, 6, .inl pl)), (q5b, .inl (cA, 60, .inl nu)), (q5c, .inl (cA, 60, .inl de)), (q5d, .inl (cA, 40, .inl si)), (q5e, .inl (cA, 480, .inl ki)), (q5f, .inl (cA, 480, .inl aa)), (q5g, .inl (cA, 480, .inl xx)), (q5h, .inl (cA, 480, .inl yy)), (q5i, .inl (cA, 250, .inl en))] H := hP
  have hD : va_D A [(q5, .inr (5, [.int th, .ref q5a, .int ma, .ref q5b, .ref q5c, .int to, .ref q5d, .ref q5e, .ref q5f, .ref q5g, .ref q5h, .int rn, .int rf, .int et, .ref q5i, .int sp, .int ho, .int mo, .int cs, .int (uw - 1), .int wh, .int lo])), (q5a, .inl (cA, 6, .inl pl)), (q5b, .inl (cA, 60, .inl nu)), (q5c, .inl (cA, 60, .inl de)), (q5d, .inl (cA, 40, .inl si)), (q5e, .inl (cA, 480, .inl ki)), (q5f, .inl (cA, 480, .inl aa)), (q5g, .inl (cA, 480, .inl xx)), (q5h, .inl (cA, 480, .inl yy)), (q5i, .inl (cA, 250, .inl en))] := hD
  refine lv_aload_n hx hb dX5_leave_10 rfl (lv_at hl 0 rfl) ?_
  refine va_get (D := (dC, dI)) (ci := 5) (v := .ref q5c) (C := RX5) (T := TX5) (N := 22) hx hb hts (by decide +kernel) hown hK hP 0 rfl rfl 4 (by decide) (hts (.fieldLink RX5 16 RX5 "depth" "[I") (by decide +kernel)) (fun _ h9 => h9) rfl dX5_leave_11 ?_
  refine lv_iload_n hx hb dX5_leave_14 rfl (lv_at hl 1 rfl) ?_
  refine lv_dup2_11 hx hb dX5_leave_15 rfl rfl ?_
  refine va_iald hx hb hK hP 3 0 rfl rfl ht dX5_leave_16 ?_
  refine lv_iconst (v := 1) hx hb dX5_leave_17 (by decide) ?_
  refine lv_isub hx hb dX5_leave_18 ?_
  refine va_iast hx hb hK hP hD hS 3 0 rfl rfl ht dX5_leave_19 (fun H locs hP hD hS => ?_)
  have hP : va_P (dC, dI) vwCl [(q5, .inr (5, [.int th, .ref q5a, .int ma, .ref q5b, .ref q5c, .int to, .ref q5d, .ref q5e, .ref q5f, .ref q5g, .ref q5h, .int rn, .int rf, .int et, .ref q5i, .int sp, .int ho, .int mo, .int cs, .int (uw - 1), .int wh, .int lo])), (q5a, .inl (cA, 6, .inl pl)), (q5b, .inl (cA, 60, .inl nu)), (q5c, .inl (cA, 60, .inl (upd de p0.toNatClampNeg ((de p0.toNatClampNeg) - 1)))), (q5d, .inl (cA, 40, .inl si)), (q5e, .inl (cA, 480, .inl ki)), (q5f, .inl (cA, 480, .inl aa)), (q5g, .inl (cA, 480, .inl xx)), (q5h, .inl (cA, 480, .inl yy)), (q5i, .inl (cA, 250, .inl en))] H := hP
  have hD : va_D A [(q5, .inr (5, [.int th, .ref q5a, .int ma, .ref q5b, .ref q5c, .int to, .ref q5d, .ref q5e, .ref q5f, .ref q5g, .ref q5h, .int rn, .int rf, .int et, .ref q5i, .int sp, .int ho, .int mo, .int cs, .int (uw - 1), .int wh, .int lo])), (q5a, .inl (cA, 6, .inl pl)), (q5b, .inl (cA, 60, .inl nu)), (q5c, .inl (cA, 60, .inl (upd de p0.toNatClampNeg ((de p0.toNatClampNeg) - 1)))), (q5d, .inl (cA, 40, .inl si)), (q5e, .inl (cA, 480, .inl ki)), (q5f, .inl (cA, 480, .inl aa)), (q5g, .inl (cA, 480, .inl xx)), (q5h, .inl (cA, 480, .inl yy)), (q5i, .inl (cA, 250, .inl en))] := hD
  refine lv_aload_n hx hb dX5_leave_20 rfl (lv_at hl 0 rfl) ?_
  refine lv_dup hx hb dX5_leave_21 rfl ?_
  refine va_get (D := (dC, dI)) (ci := 5) (v := .int cs) (C := RX5) (T := TX5) (N := 22) hx hb hts (by decide +kernel) hown hK hP 0 rfl rfl 18 (by decide) (hts (.fieldLink RX5 83 RX5 "leftBadly" "I") (by decide +kernel)) (fun _ h9 => h9) rfl dX5_leave_22 ?_
  refine lv_iload_n hx hb dX5_leave_25 rfl (lv_at hl 2 rfl) ?_
  refine lv_iconst (v := 4) hx hb dX5_leave_26 (by decide) ?_
  refine lv_icmp_lt (tgt := 34) hx hb dX5_leave_27 (by decide) (fun c_1 => ?_) (fun c_1 => ?_)
  · refine lv_iconst (v := 0) hx hb dX5_leave_34 (by decide) ?_
    refine lv_iadd hx hb dX5_leave_35 ?_
    refine va_put (D := (dC, dI)) (ci := 5) (v := .int (cs + 0)) (ty := .int) (C := RX5) (T := TX5) (N := 22) hx hb hts (by decide +kernel) tyX5 tyX5_ok nmX5 hown hK hP hD hS 0 rfl rfl 18 (by decide) (hts (.fieldLink RX5 83 RX5 "leftBadly" "I") (by decide +kernel)) (fun _ h9 => h9) rfl (by decide +kernel) rfl rfl (Nat.le_of_ble_eq_true rfl) dX5_leave_36 (fun H locs hP hD hS => ?_)
    have hP : va_P (dC, dI) vwCl [(q5, .inr (5, [.int th, .ref q5a, .int ma, .ref q5b, .ref q5c, .int to, .ref q5d, .ref q5e, .ref q5f, .ref q5g, .ref q5h, .int rn, .int rf, .int et, .ref q5i, .int sp, .int ho, .int mo, .int (cs + 0), .int (uw - 1), .int wh, .int lo])), (q5a, .inl (cA, 6, .inl pl)), (q5b, .inl (cA, 60, .inl nu)), (q5c, .inl (cA, 60, .inl (upd de p0.toNatClampNeg ((de p0.toNatClampNeg) - 1)))), (q5d, .inl (cA, 40, .inl si)), (q5e, .inl (cA, 480, .inl ki)), (q5f, .inl (cA, 480, .inl aa)), (q5g, .inl (cA, 480, .inl xx)), (q5h, .inl (cA, 480, .inl yy)), (q5i, .inl (cA, 250, .inl en))] H := hP
    have hD : va_D A [(q5, .inr (5, [.int th, .ref q5a, .int ma, .ref q5b, .ref q5c, .int to, .ref q5d, .ref q5e, .ref q5f, .ref q5g, .ref q5h, .int rn, .int rf, .int et, .ref q5i, .int sp, .int ho, .int mo, .int (cs + 0), .int (uw - 1), .int wh, .int lo])), (q5a, .inl (cA, 6, .inl pl)), (q5b, .inl (cA, 60, .inl nu)), (q5c, .inl (cA, 60, .inl (upd de p0.toNatClampNeg ((de p0.toNatClampNeg) - 1)))), (q5d, .inl (cA, 40, .inl si)), (q5e, .inl (cA, 480, .inl ki)), (q5f, .inl (cA, 480, .inl aa)), (q5g, .inl (cA, 480, .inl xx)), (q5h, .inl (cA, 480, .inl yy)), (q5i, .inl (cA, 250, .inl en))] := hD
    refine lv_aload_n hx hb dX5_leave_39 rfl (lv_at hl 0 rfl) ?_
    refine lv_sipush (v := 2000) hx hb dX5_leave_40 (by decide) ?_
    refine lv_bipush (v := 100) hx hb dX5_leave_43 (by decide) ?_
    refine lv_iload_n hx hb dX5_leave_45 rfl (lv_at hl 2 rfl) ?_
    refine lv_imul hx hb dX5_leave_46 ?_
    refine lv_iadd hx hb dX5_leave_47 ?_
    refine lv_iload_n hx hb dX5_leave_48 rfl (lv_at hl 1 rfl) ?_
    refine lv_iadd hx hb dX5_leave_49 ?_
    refine kx_wv (wr := []) hP hD hS hA [0, 1, 2, 3, 4, 5, 6, 7, 8, 9] [] rfl rfl (by decide) (by decide) (va_runV (As := [.int ((2000 + (100 * p1)) + p0)]) (rest := []) ⟨hx, hb, hml, hown, hts⟩ (c_X5_comes l dC dI cA q5 q5a q5b q5c q5d q5e q5f q5g q5h q5i H.size th ma to rn rf et sp ho mo (cs + 0) (uw - 1) wh lo pl nu (upd de p0.toNatClampNeg ((de p0.toNatClampNeg) - 1)) si ki aa xx yy en ((2000 + (100 * p1)) + p0) het) (cwV 1 hts gX5_leave_X5_comes rfl rfl rfl (by decide +kernel) ⟨(Nat.le_of_ble_eq_true rfl), (Nat.le_of_ble_eq_true rfl)⟩) (pW hN (hP.sub (ws' := [(q5, .inr (5, [.int th, .ref q5a, .int ma, .ref q5b, .ref q5c, .int to, .ref q5d, .ref q5e, .ref q5f, .ref q5g, .ref q5h, .int rn, .int rf, .int et, .ref q5i, .int sp, .int ho, .int mo, .int (cs + 0), .int (uw - 1), .int wh, .int lo])), (q5a, .inl (cA, 6, .inl pl)), (q5b, .inl (cA, 60, .inl nu)), (q5c, .inl (cA, 60, .inl (upd de p0.toNatClampNeg ((de p0.toNatClampNeg) - 1)))), (q5d, .inl (cA, 40, .inl si)), (q5e, .inl (cA, 480, .inl ki)), (q5f, .inl (cA, 480, .inl aa)), (q5g, .inl (cA, 480, .inl xx)), (q5h, .inl (cA, 480, .inl yy)), (q5i, .inl (cA, 250, .inl en))]) [0, 1, 2, 3, 4, 5, 6, 7, 8, 9] rfl) hK (hD.sub (ws' := [(q5, .inr (5, [.int th, .ref q5a, .int ma, .ref q5b, .ref q5c, .int to, .ref q5d, .ref q5e, .ref q5f, .ref q5g, .ref q5h, .int rn, .int rf, .int et, .ref q5i, .int sp, .int ho, .int mo, .int (cs + 0), .int (uw - 1), .int wh, .int lo])), (q5a, .inl (cA, 6, .inl pl)), (q5b, .inl (cA, 60, .inl nu)), (q5c, .inl (cA, 60, .inl (upd de p0.toNatClampNeg ((de p0.toNatClampNeg) - 1)))), (q5d, .inl (cA, 40, .inl si)), (q5e, .inl (cA, 480, .inl ki)), (q5f, .inl (cA, 480, .inl aa)), (q5g, .inl (cA, 480, .inl xx)), (q5h, .inl (cA, 480, .inl yy)), (q5i, .inl (cA, 250, .inl en))]) [0, 1, 2, 3, 4, 5, 6, 7, 8, 9] (by decide) rfl) (ci := 5) (q0 := 0) rfl rfl rfl) rfl rfl hl.1 rfl (lv_room (Nat.le_of_ble_eq_true rfl)) dX5_leave_50 ⟨Nat.zero_le _, Nat.zero_le _⟩) (fun u_2 H locs hw_2 hP hD hS => ?_)
    obtain ⟨th_2, ma_2, to_2, rn_2, rf_2, et_2, sp_2, ho_2, mo_2, cs_2, uw_2, wh_2, lo_2, pl_2, nu_2, de_2, si_2, ki_2, aa_2, xx_2, yy_2, en_2⟩ := u_2
    have hP : va_P (dC, dI) vwCl [(q5, .inr (5, [.int th_2, .ref q5a, .int ma_2, .ref q5b, .ref q5c, .int to_2, .ref q5d, .ref q5e, .ref q5f, .ref q5g, .ref q5h, .int rn_2, .int rf_2, .int et_2, .ref q5i, .int sp_2, .int ho_2, .int mo_2, .int cs_2, .int uw_2, .int wh_2, .int lo_2])), (q5a, .inl (cA, 6, .inl pl_2)), (q5b, .inl (cA, 60, .inl nu_2)), (q5c, .inl (cA, 60, .inl de_2)), (q5d, .inl (cA, 40, .inl si_2)), (q5e, .inl (cA, 480, .inl ki_2)), (q5f, .inl (cA, 480, .inl aa_2)), (q5g, .inl (cA, 480, .inl xx_2)), (q5h, .inl (cA, 480, .inl yy_2)), (q5i, .inl (cA, 250, .inl en_2))] H := hP
    have hD : va_D A [(q5, .inr (5, [.int th_2, .ref q5a, .int ma_2, .ref q5b, .ref q5c, .int to_2, .ref q5d, .ref q5e, .ref q5f, .ref q5g, .ref q5h, .int rn_2, .int rf_2, .int et_2, .ref q5i, .int sp_2, .int ho_2, .int mo_2, .int cs_2, .int uw_2, .int wh_2, .int lo_2])), (q5a, .inl (cA, 6, .inl pl_2)), (q5b, .inl (cA, 60, .inl nu_2)), (q5c, .inl (cA, 60, .inl de_2)), (q5d, .inl (cA, 40, .inl si_2)), (q5e, .inl (cA, 480, .inl ki_2)), (q5f, .inl (cA, 480, .inl aa_2)), (q5g, .inl (cA, 480, .inl xx_2)), (q5h, .inl (cA, 480, .inl yy_2)), (q5i, .inl (cA, 250, .inl en_2))] := hD
    exact rt_v hx hb hr hlocks (th_2, ma_2, to_2, rn_2, rf_2, et_2, sp_2, ho_2, mo_2, cs_2, uw_2, wh_2, lo_2, pl_2, nu_2, de_2, si_2, ki_2, aa_2, xx_2, yy_2, en_2) (by simp only [f_X5_leave, if_pos c_1, ← hw_2]) hP hD hS dX5_leave_53
  · refine lv_iconst (v := 1) hx hb dX5_leave_30 (by decide) ?_
    refine lv_goto (tgt := 35) hx hb dX5_leave_31 (by decide) ?_
    refine lv_iadd hx hb dX5_leave_35 ?_
    refine va_put (D := (dC, dI)) (ci := 5) (v := .int (cs + 1)) (ty := .int) (C := RX5) (T := TX5) (N := 22) hx hb hts (by decide +kernel) tyX5 tyX5_ok nmX5 hown hK hP hD hS 0 rfl rfl 18 (by decide) (hts (.fieldLink RX5 83 RX5 "leftBadly" "I") (by decide +kernel)) (fun _ h9 => h9) rfl (by decide +kernel) rfl rfl (Nat.le_of_ble_eq_true rfl) dX5_leave_36 (fun H locs hP hD hS => ?_)
    have hP : va_P (dC, dI) vwCl [(q5, .inr (5, [.int th, .ref q5a, .int ma, .ref q5b, .ref q5c, .int to, .ref q5d, .ref q5e, .ref q5f, .ref q5g, .ref q5h, .int rn, .int rf, .int et, .ref q5i, .int sp, .int ho, .int mo, .int (cs + 1), .int (uw - 1), .int wh, .int lo])), (q5a, .inl (cA, 6, .inl pl)), (q5b, .inl (cA, 60, .inl nu)), (q5c, .inl (cA, 60, .inl (upd de p0.toNatClampNeg ((de p0.toNatClampNeg) - 1)))), (q5d, .inl (cA, 40, .inl si)), (q5e, .inl (cA, 480, .inl ki)), (q5f, .inl (cA, 480, .inl aa)), (q5g, .inl (cA, 480, .inl xx)), (q5h, .inl (cA, 480, .inl yy)), (q5i, .inl (cA, 250, .inl en))] H := hP
    have hD : va_D A [(q5, .inr (5, [.int th, .ref q5a, .int ma, .ref q5b, .ref q5c, .int to, .ref q5d, .ref q5e, .ref q5f, .ref q5g, .ref q5h, .int rn, .int rf, .int et, .ref q5i, .int sp, .int ho, .int mo, .int (cs + 1), .int (uw - 1), .int wh, .int lo])), (q5a, .inl (cA, 6, .inl pl)), (q5b, .inl (cA, 60, .inl nu)), (q5c, .inl (cA, 60, .inl (upd de p0.toNatClampNeg ((de p0.toNatClampNeg) - 1)))), (q5d, .inl (cA, 40, .inl si)), (q5e, .inl (cA, 480, .inl ki)), (q5f, .inl (cA, 480, .inl aa)), (q5g, .inl (cA, 480, .inl xx)), (q5h, .inl (cA, 480, .inl yy)), (q5i, .inl (cA, 250, .inl en))] := hD
    refine lv_aload_n hx hb dX5_leave_39 rfl (lv_at hl 0 rfl) ?_
    refine lv_sipush (v := 2000) hx hb dX5_leave_40 (by decide) ?_
    refine lv_bipush (v := 100) hx hb dX5_leave_43 (by decide) ?_
    refine lv_iload_n hx hb dX5_leave_45 rfl (lv_at hl 2 rfl) ?_
    refine lv_imul hx hb dX5_leave_46 ?_
    refine lv_iadd hx hb dX5_leave_47 ?_
    refine lv_iload_n hx hb dX5_leave_48 rfl (lv_at hl 1 rfl) ?_
    refine lv_iadd hx hb dX5_leave_49 ?_
    refine kx_wv (wr := []) hP hD hS hA [0, 1, 2, 3, 4, 5, 6, 7, 8, 9] [] rfl rfl (by decide) (by decide) (va_runV (As := [.int ((2000 + (100 * p1)) + p0)]) (rest := []) ⟨hx, hb, hml, hown, hts⟩ (c_X5_comes l dC dI cA q5 q5a q5b q5c q5d q5e q5f q5g q5h q5i H.size th ma to rn rf et sp ho mo (cs + 1) (uw - 1) wh lo pl nu (upd de p0.toNatClampNeg ((de p0.toNatClampNeg) - 1)) si ki aa xx yy en ((2000 + (100 * p1)) + p0) het) (cwV 1 hts gX5_leave_X5_comes rfl rfl rfl (by decide +kernel) ⟨(Nat.le_of_ble_eq_true rfl), (Nat.le_of_ble_eq_true rfl)⟩) (pW hN (hP.sub (ws' := [(q5, .inr (5, [.int th, .ref q5a, .int ma, .ref q5b, .ref q5c, .int to, .ref q5d, .ref q5e, .ref q5f, .ref q5g, .ref q5h, .int rn, .int rf, .int et, .ref q5i, .int sp, .int ho, .int mo, .int (cs + 1), .int (uw - 1), .int wh, .int lo])), (q5a, .inl (cA, 6, .inl pl)), (q5b, .inl (cA, 60, .inl nu)), (q5c, .inl (cA, 60, .inl (upd de p0.toNatClampNeg ((de p0.toNatClampNeg) - 1)))), (q5d, .inl (cA, 40, .inl si)), (q5e, .inl (cA, 480, .inl ki)), (q5f, .inl (cA, 480, .inl aa)), (q5g, .inl (cA, 480, .inl xx)), (q5h, .inl (cA, 480, .inl yy)), (q5i, .inl (cA, 250, .inl en))]) [0, 1, 2, 3, 4, 5, 6, 7, 8, 9] rfl) hK (hD.sub (ws' := [(q5, .inr (5, [.int th, .ref q5a, .int ma, .ref q5b, .ref q5c, .int to, .ref q5d, .ref q5e, .ref q5f, .ref q5g, .ref q5h, .int rn, .int rf, .int et, .ref q5i, .int sp, .int ho, .int mo, .int (cs + 1), .int (uw - 1), .int wh, .int lo])), (q5a, .inl (cA, 6, .inl pl)), (q5b, .inl (cA, 60, .inl nu)), (q5c, .inl (cA, 60, .inl (upd de p0.toNatClampNeg ((de p0.toNatClampNeg) - 1)))), (q5d, .inl (cA, 40, .inl si)), (q5e, .inl (cA, 480, .inl ki)), (q5f, .inl (cA, 480, .inl aa)), (q5g, .inl (cA, 480, .inl xx)), (q5h, .inl (cA, 480, .inl yy)), (q5i, .inl (cA, 250, .inl en))]) [0, 1, 2, 3, 4, 5, 6, 7, 8, 9] (by decide) rfl) (ci := 5) (q0 := 0) rfl rfl rfl) rfl rfl hl.1 rfl (lv_room (Nat.le_of_ble_eq_true rfl)) dX5_leave_50 ⟨Nat.zero_le _, Nat.zero_le _⟩) (fun u_3 H locs hw_3 hP hD hS => ?_)
    obtain ⟨th_3, ma_3, to_3, rn_3, rf_3, et_3, sp_3, ho_3, mo_3, cs_3, uw_3, wh_3, lo_3, pl_3, nu_3, de_3, si_3, ki_3, aa_3, xx_3, yy_3, en_3⟩ := u_3
    have hP : va_P (dC, dI) vwCl [(q5, .inr (5, [.int th_3, .ref q5a, .int ma_3, .ref q5b, .ref q5c, .int to_3, .ref q5d, .ref q5e, .ref q5f, .ref q5g, .ref q5h, .int rn_3, .int rf_3, .int et_3, .ref q5i, .int sp_3, .int ho_3, .int mo_3, .int cs_3, .int uw_3, .int wh_3, .int lo_3])), (q5a, .inl (cA, 6, .inl pl_3)), (q5b, .inl (cA, 60, .inl nu_3)), (q5c, .inl (cA, 60, .inl de_3)), (q5d, .inl (cA, 40, .inl si_3)), (q5e, .inl (cA, 480, .inl ki_3)), (q5f, .inl (cA, 480, .inl aa_3)), (q5g, .inl (cA, 480, .inl xx_3)), (q5h, .inl (cA, 480, .inl yy_3)), (q5i, .inl (cA, 250, .inl en_3))] H := hP
    have hD : va_D A [(q5, .inr (5, [.int th_3, .ref q5a, .int ma_3, .ref q5b, .ref q5c, .int to_3, .ref q5d, .ref q5e, .ref q5f, .ref q5g, .ref q5h, .int rn_3, .int rf_3, .int et_3, .ref q5i, .int sp_3, .int ho_3, .int mo_3, .int cs_3, .int uw_3, .int wh_3, .int lo_3])), (q5a, .inl (cA, 6, .inl pl_3)), (q5b, .inl (cA, 60, .inl nu_3)), (q5c, .inl (cA, 60, .inl de_3)), (q5d, .inl (cA, 40, .inl si_3)), (q5e, .inl (cA, 480, .inl ki_3)), (q5f, .inl (cA, 480, .inl aa_3)), (q5g, .inl (cA, 480, .inl xx_3)), (q5h, .inl (cA, 480, .inl yy_3)), (q5i, .inl (cA, 250, .inl en_3))] := hD
    exact rt_v hx hb hr hlocks (th_3, ma_3, to_3, rn_3, rf_3, et_3, sp_3, ho_3, mo_3, cs_3, uw_3, wh_3, lo_3, pl_3, nu_3, de_3, si_3, ki_3, aa_3, xx_3, yy_3, en_3) (by simp only [f_X5_leave, if_neg c_1, ← hw_3]) hP hD hS dX5_leave_53
def f_X5_throwing (th : Int32) (ma : Int32) (to : Int32) (rn : Int32) (rf : Int32) (et : Int32) (sp : Int32) (ho : Int32) (mo : Int32) (cs : Int32) (uw : Int32) (wh : Int32) (lo : Int32) (pl : Nat → Int32) (nu : Nat → Int32) (de : Nat → Int32) (si : Nat → Int32) (ki : Nat → Int32) (aa : Nat → Int32) (xx : Nat → Int32) (yy : Nat → Int32) (en : Nat → Int32) (p0 : Int32) : Int32 × Int32 × Int32 × Int32 × Int32 × Int32 × Int32 × Int32 × Int32 × Int32 × Int32 × Int32 × Int32 × Int32 × (Nat → Int32) × (Nat → Int32) × (Nat → Int32) × (Nat → Int32) × (Nat → Int32) × (Nat → Int32) × (Nat → Int32) × (Nat → Int32) × (Nat → Int32) := (4, th, ma, to, rn, rf, et, sp, ho, mo, cs, uw, p0, lo, pl, nu, de, si, ki, aa, xx, yy, en)
set_option maxHeartbeats 4000000 in
set_option maxRecDepth 100000 in
theorem c_X5_throwing (l : Launch) (dC : Nat → ClassId) (dI : Nat → Nat → Nat) (cA : ClassId) (q5 q5a q5b q5c q5d q5e q5f q5g q5h q5i : Nat) (sz : Nat) (th : Int32) (ma : Int32) (to : Int32) (rn : Int32) (rf : Int32) (et : Int32) (sp : Int32) (ho : Int32) (mo : Int32) (cs : Int32) (uw : Int32) (wh : Int32) (lo : Int32) (pl : Nat → Int32) (nu : Nat → Int32) (de : Nat → Int32) (si : Nat → Int32) (ki : Nat → Int32) (aa : Nat → Int32) (xx : Nat → Int32) (yy : Nat → Int32) (en : Nat → Int32) (p0 : Int32) : Met l yX5_throwing wsX5_throwing ({ frames := 0, cells := 0, slots := 0, locals := 0 }) (pcW (dC, dI) [(q5, .inr (5, [.int th, .ref q5a, .int ma, .ref q5b, .ref q5c, .int to, .ref q5d, .ref q5e, .ref q5f, .ref q5g, .ref q5h, .int rn, .int rf, .int et, .ref q5i, .int sp, .int ho, .int mo, .int cs, .int uw, .int wh, .int lo])), (q5a, .inl (cA, 6, .inl pl)), (q5b, .inl (cA, 60, .inl nu)), (q5c, .inl (cA, 60, .inl de)), (q5d, .inl (cA, 40, .inl si)), (q5e, .inl (cA, 480, .inl ki)), (q5f, .inl (cA, 480, .inl aa)), (q5g, .inl (cA, 480, .inl xx)), (q5h, .inl (cA, 480, .inl yy)), (q5i, .inl (cA, 250, .inl en))] [(cA, .int)] sz [.ref q5, .int p0]) (QWi (dC, dI) (f_X5_throwing th ma to rn rf et sp ho mo cs uw wh lo pl nu de si ki aa xx yy en p0) (wd_mo cA q5 q5a q5b q5c q5d q5e q5f q5g q5h q5i) (va_A [(q5, .inr (5, [.int th, .ref q5a, .int ma, .ref q5b, .ref q5c, .int to, .ref q5d, .ref q5e, .ref q5f, .ref q5g, .ref q5h, .int rn, .int rf, .int et, .ref q5i, .int sp, .int ho, .int mo, .int cs, .int uw, .int wh, .int lo])), (q5a, .inl (cA, 6, .inl pl)), (q5b, .inl (cA, 60, .inl nu)), (q5c, .inl (cA, 60, .inl de)), (q5d, .inl (cA, 40, .inl si)), (q5e, .inl (cA, 480, .inl ki)), (q5f, .inl (cA, 480, .inl aa)), (q5g, .inl (cA, 480, .inl xx)), (q5h, .inl (cA, 480, .inl yy)), (q5i, .inl (cA, 250, .inl en))] sz)) 0 0 (va_A [(q5, .inr (5, [.int th, .ref q5a, .int ma, .ref q5b, .ref q5c, .int to, .ref q5d, .ref q5e, .ref q5f, .ref q5g, .ref q5h, .int rn, .int rf, .int et, .ref q5i, .int sp, .int ho, .int mo, .int cs, .int uw, .int wh, .int lo])), (q5a, .inl (cA, 6, .inl pl)), (q5b, .inl (cA, 60, .inl nu)), (q5c, .inl (cA, 60, .inl de)), (q5d, .inl (cA, 40, .inl si)), (q5e, .inl (cA, 480, .inl ki)), (q5f, .inl (cA, 480, .inl aa)), (q5g, .inl (cA, 480, .inl xx)), (q5h, .inl (cA, 480, .inl yy)), (q5i, .inl (cA, 250, .inl en))] sz) := by
  refine Met.ofW (cc := cX5_throwing) (maxL := 2) (ret := (some .int)) (by decide) rfl ?_
  intro p e s m args below meth c s₁ B hml hv
  obtain ⟨rfl, hsz, hN, hP, hK, hD0⟩ := hv
  have hx := B.exec
  have hb := B.bytes
  have hr := B.returns
  have hts := atoms_spec (ws := wsX5_throwing) B.pre
  have hown : s.vm.findClass RX5 = some m.cls := findClass_of_methodNamed B.named
  have hlocks := B.notSynchronized
  subst hsz
  have hD := hD0.self (sz := s.heap.size)
  generalize hAe : va_A [(q5, .inr (5, [.int th, .ref q5a, .int ma, .ref q5b, .ref q5c, .int to, .ref q5d, .ref q5e, .ref q5f, .ref q5g, .ref q5h, .int rn, .int rf, .int et, .ref q5i, .int sp, .int ho, .int mo, .int cs, .int uw, .int wh, .int lo])), (q5a, .inl (cA, 6, .inl pl)), (q5b, .inl (cA, 60, .inl nu)), (q5c, .inl (cA, 60, .inl de)), (q5d, .inl (cA, 40, .inl si)), (q5e, .inl (cA, 480, .inl ki)), (q5f, .inl (cA, 480, .inl aa)), (q5g, .inl (cA, 480, .inl xx)), (q5h, .inl (cA, 480, .inl yy)), (q5i, .inl (cA, 250, .inl en))] s.heap.size = A at hD ⊢
  have hA : ∀ q : Nat, s.heap.size ≤ q → A q := fun q h => by rw [← hAe]; exact Or.inr h
  have hS : va_S A s.heap s.heap [] := va_S.rf
  have hl := lv_entry ([.ref q5, .int p0]) (n := 2) (Nat.le_of_ble_eq_true rfl)
  rw [lg_entry_eq]
  generalize (lg_sl ([.ref q5, .int p0]) ++ List.replicate (2 - (lg_sl ([.ref q5, .int p0])).length) Slot.unset).toArray = ls at hl ⊢
  have hl : lv_has ls 2 [(0, .ref q5), (1, .int p0)] := hl
  refine lv_aload_n hx hb dX5_throwing_0 rfl (lv_at hl 0 rfl) ?_
  refine lv_iload_n hx hb dX5_throwing_1 rfl (lv_at hl 1 rfl) ?_
  refine va_put (D := (dC, dI)) (ci := 5) (v := .int p0) (ty := .int) (C := RX5) (T := TX5) (N := 22) hx hb hts (by decide +kernel) tyX5 tyX5_ok nmX5 hown hK hP hD hS 0 rfl rfl 20 (by decide) (hts (.fieldLink RX5 86 RX5 "what" "I") (by decide +kernel)) (fun _ h9 => h9) rfl (by decide +kernel) rfl rfl (Nat.le_of_ble_eq_true rfl) dX5_throwing_2 (fun H locs hP hD hS => ?_)
  have hP : va_P (dC, dI) vwCl [(q5, .inr (5, [.int th, .ref q5a, .int ma, .ref q5b, .ref q5c, .int to, .ref q5d, .ref q5e, .ref q5f, .ref q5g, .ref q5h, .int rn, .int rf, .int et, .ref q5i, .int sp, .int ho, .int mo, .int cs, .int uw, .int p0, .int lo])), (q5a, .inl (cA, 6, .inl pl)), (q5b, .inl (cA, 60, .inl nu)), (q5c, .inl (cA, 60, .inl de)), (q5d, .inl (cA, 40, .inl si)), (q5e, .inl (cA, 480, .inl ki)), (q5f, .inl (cA, 480, .inl aa)), (q5g, .inl (cA, 480, .inl xx)), (q5h, .inl (cA, 480, .inl yy)), (q5i, .inl (cA, 250, .inl en))] H := hP
  have hD : va_D A [(q5, .inr (5, [.int th, .ref q5a, .int ma, .ref q5b, .ref q5c, .int to, .ref q5d, .ref q5e, .ref q5f, .ref q5g, .ref q5h, .int rn, .int rf, .int et, .ref q5i, .int sp, .int ho, .int mo, .int cs, .int uw, .int p0, .int lo])), (q5a, .inl (cA, 6, .inl pl)), (q5b, .inl (cA, 60, .inl nu)), (q5c, .inl (cA, 60, .inl de)), (q5d, .inl (cA, 40, .inl si)), (q5e, .inl (cA, 480, .inl ki)), (q5f, .inl (cA, 480, .inl aa)), (q5g, .inl (cA, 480, .inl xx)), (q5h, .inl (cA, 480, .inl yy)), (q5i, .inl (cA, 250, .inl en))] := hD
  refine lv_iconst (v := 4) hx hb dX5_throwing_5 (by decide) ?_
  exact rt_i hx hb hr hlocks (th, ma, to, rn, rf, et, sp, ho, mo, cs, uw, p0, lo, pl, nu, de, si, ki, aa, xx, yy, en) (by simp only [f_X5_throwing]) hP hD hS dX5_throwing_6
end
section
/-! numbers -/
theorem ti_add {a b : Int32} (h1 : -2147483648 ≤ a.toInt + b.toInt) (h2 : a.toInt + b.toInt < 2147483648) : (a + b).toInt = a.toInt + b.toInt := by
  rw [Int32.toInt_add]
  apply Int.bmod_eq_of_le <;> omega
theorem ti_sub {a b : Int32} (h1 : -2147483648 ≤ a.toInt - b.toInt) (h2 : a.toInt - b.toInt < 2147483648) : (a - b).toInt = a.toInt - b.toInt := by
  rw [Int32.toInt_sub]
  apply Int.bmod_eq_of_le <;> omega
theorem c0 : (0 : Int32).toInt = 0 := by decide
theorem c1 : (1 : Int32).toInt = 1 := by decide
theorem cm1 : (-1 : Int32).toInt = -1 := by decide
theorem c5 : (5 : Int32).toInt = 5 := by decide
theorem c6 : (6 : Int32).toInt = 6 := by decide
theorem c12 : (12 : Int32).toInt = 12 := by decide
theorem c60 : (60 : Int32).toInt = 60 := by decide
theorem c300 : (300 : Int32).toInt = 300 := by decide
theorem eqi {a b : Int32} (h : a.toInt = b.toInt) : a = b := Int32.toInt_inj.mp h
theorem nei {a b : Int32} (h : ¬ a = b) : a.toInt ≠ b.toInt := fun e => h (eqi e)
theorem inc1 {x : Int32} (h0 : 0 ≤ x.toInt) (h1 : x.toInt ≤ 100000) : (x + 1).toInt = x.toInt + 1 := by
  rw [ti_add] <;> rw [c1] <;> omega
theorem nI_ti {k : Nat} (h : k ≤ 1000) : (nI k).toInt = (k : Int) := nI_toInt (by omega)
theorem vpn {x : Int32} {n : Nat} (h : vp_in x n) : ∃ j : Nat, j < n ∧ x.toInt = (j : Int) ∧ x.toNatClampNeg = j := by
  rw [vp_in_iff] at h
  refine ⟨x.toInt.toNat, by omega, by omega, ?_⟩
  have : x.toNatClampNeg = x.toInt.toNat := rfl
  exact this
theorem cln {x : Int32} (h : 0 ≤ x.toInt) : (x.toNatClampNeg : Int) = x.toInt := by
  have : x.toNatClampNeg = x.toInt.toNat := rfl
  omega
/-! what a program and a state are like -/
def BL (b : Nat) (x : Int32) : Prop := (b : Int) < x.toInt ∧ x.toInt < 40
def VS (b : Nat) (kd a x y : Int32) : Prop := (0 ≤ kd.toInt ∧ kd.toInt ≤ 14) ∧ (kd = 1 → vp_in a 6 ∧ BL b x) ∧ (kd = 2 → (0 ≤ a.toInt ∧ a.toInt ≤ 5) ∧ BL b x) ∧ (kd = 6 → 1 ≤ a.toInt ∧ a.toInt ≤ 9) ∧ (kd = 7 → (0 ≤ a.toInt ∧ a.toInt ≤ 13) ∧ BL b x ∧ BL b y) ∧ (kd = 8 → BL b x ∧ BL b y) ∧ (kd = 9 → BL b x) ∧ (kd = 10 → vp_in x 6) ∧ (kd = 11 → vp_in a 6 ∧ vp_in x 6) ∧ (kd = 12 → vp_in a 6) ∧ (kd = 13 → vp_in a 6)
def PV (si ki aa xx yy : Nat → Int32) : Prop := ∀ b : Nat, b < 40 → (0 ≤ (si b).toInt ∧ (si b).toInt ≤ 12) ∧ ∀ k : Nat, (k : Int) < (si b).toInt → VS b (ki (12 * b + k)) (aa (12 * b + k)) (xx (12 * b + k)) (yy (12 * b + k))
def J (δ : Nat) (ma et sp : Int32) (pl nu de si ki aa xx yy : Nat → Int32) : Prop :=
  (0 ≤ ma.toInt ∧ ma.toInt ≤ 60) ∧ (∀ p : Nat, p < 6 → (pl p).toInt = -1 ∨ (0 ≤ (pl p).toInt ∧ (pl p).toInt < ma.toInt)) ∧ (∀ t : Nat, ma.toInt ≤ (t : Int) → nu t = 0 ∧ de t = 0) ∧ (∀ t : Nat, 0 ≤ (de t).toInt ∧ 13 * (de t).toInt + (δ : Int) ≤ 14 * sp.toInt) ∧ (0 ≤ et.toInt ∧ et.toInt + (δ : Int) ≤ 14 * sp.toInt) ∧ (0 ≤ sp.toInt ∧ sp.toInt ≤ 300) ∧ PV si ki aa xx yy
section JS
variable {δ δ' : Nat} {ma et sp : Int32} {pl nu de si ki aa xx yy : Nat → Int32}
theorem J.ma60 (h : J δ ma et sp pl nu de si ki aa xx yy) : ma.toInt ≤ 60 := h.1.2
theorem J.et0 (h : J δ ma et sp pl nu de si ki aa xx yy) : 0 ≤ et.toInt := h.2.2.2.2.1.1
theorem J.et5 (h : J δ ma et sp pl nu de si ki aa xx yy) : et.toInt ≤ 5000 := by
  have h1 := h.2.2.2.2.1.2
  have h2 := h.2.2.2.2.2.1.2
  omega
theorem J.pv (h : J δ ma et sp pl nu de si ki aa xx yy) : PV si ki aa xx yy := h.2.2.2.2.2.2
theorem J.weak (h : J δ ma et sp pl nu de si ki aa xx yy) (hd : δ' ≤ δ) : J δ' ma et sp pl nu de si ki aa xx yy := by
  obtain ⟨h1, h2, h3, h4, h5, h6, h7⟩ := h
  refine ⟨h1, h2, h3, fun t => ⟨(h4 t).1, ?_⟩, ⟨h5.1, ?_⟩, h6, h7⟩
  · have := (h4 t).2
    omega
  · omega
theorem J_stepg (h : J δ ma et sp pl nu de si ki aa xx yy) (hs : sp.toInt < 300) : J (δ + 14) ma et (sp + 1) pl nu de si ki aa xx yy := by
  obtain ⟨h1, h2, h3, h4, h5, h6, h7⟩ := h
  have e : (sp + 1).toInt = sp.toInt + 1 := inc1 h6.1 (by omega)
  refine ⟨h1, h2, h3, fun t => ⟨(h4 t).1, ?_⟩, ⟨h5.1, ?_⟩, ?_, h7⟩
  · have := (h4 t).2
    rw [e]
    omega
  · rw [e]
    omega
  · rw [e]
    omega
theorem J_step (h : J 0 ma et sp pl nu de si ki aa xx yy) (hs : sp < 300) : J 14 ma et (sp + 1) pl nu de si ki aa xx yy := by
  rw [Int32.lt_iff_toInt_lt, c300] at hs
  exact J_stepg h hs
theorem sp_lt (h : J δ ma et sp pl nu de si ki aa xx yy) (hs : ¬ sp = 300) : sp.toInt < 300 := by
  have h1 := h.2.2.2.2.2.1.2
  have h2 := nei hs
  rw [c300] at h2
  omega
theorem J_step2 (h : J 0 ma et sp pl nu de si ki aa xx yy) (hs : ¬ sp = 300) : J 14 ma et (sp + 1) pl nu de si ki aa xx yy := J_stepg h (sp_lt h hs)
end JS
def HB4 (d : Nat) (p0 p1 : Int32) : Prop := 0 ≤ p0.toInt ∧ p0.toInt < 40 ∧ p1.toInt < p0.toInt ∧ 40 ≤ p0.toInt + (d : Int) ∧ d ≤ 60
def HM (d : Nat) (p0 : Int32) : Prop := 0 ≤ p0.toInt ∧ p0.toInt < 40 ∧ 40 ≤ p0.toInt + (d : Int)
def LO (d : Nat) (lo : Int32) : Prop := 0 ≤ lo.toInt ∧ lo.toInt + (d : Int) ≤ 100 ∧ d ≤ 60
theorem LO.down {d : Nat} {lo : Int32} (h : LO (d + 1) lo) : LO d lo := ⟨h.1, by have := h.2; omega, by have := h.2.2; omega⟩
theorem LO.zero {d : Nat} {lo : Int32} (h : LO (d + 1) lo) : LO d 0 := ⟨by rw [c0]; omega, by rw [c0]; have := h.2; have := h.1; omega, by have := h.2.2; omega⟩
theorem LO.up {d : Nat} {lo : Int32} (h : LO (d + 1) lo) : LO d (lo + 1) := by
  obtain ⟨h1, h2, h3⟩ := h
  have e : (lo + 1).toInt = lo.toInt + 1 := inc1 h1 (by omega)
  exact ⟨by omega, by omega, by omega⟩
def SM (d : Nat) (at_ : Int32) (ki aa xx yy : Nat → Int32) : Prop := ∃ b k : Nat, b < 40 ∧ k < 12 ∧ at_ = nI (12 * b + k) ∧ VS b (ki (12 * b + k)) (aa (12 * b + k)) (xx (12 * b + k)) (yy (12 * b + k)) ∧ 40 ≤ b + 1 + d
def SV (d : Nat) (p0 p1 : Int32) (ki aa xx yy : Nat → Int32) : Prop := ∃ b k : Nat, b < 40 ∧ k < 12 ∧ p1 = nI (12 * b + k) ∧ VS b (ki (12 * b + k)) (aa (12 * b + k)) (xx (12 * b + k)) (yy (12 * b + k)) ∧ 40 ≤ b + 1 + d ∧ p0 = nI b ∧ d < 60
section SVS
variable {d : Nat} {p0 p1 : Int32} {ki aa xx yy : Nat → Int32}
theorem SV.sm (h : SV d p0 p1 ki aa xx yy) : SM d p1 ki aa xx yy := by
  obtain ⟨b, k, h1, h2, h3, h4, h5, -, -⟩ := h
  exact ⟨b, k, h1, h2, h3, h4, h5⟩
theorem sm_in (h : SM d p0 ki aa xx yy) : vp_in p0 480 := by
  obtain ⟨b, k, h1, h2, rfl, -⟩ := h
  exact vp_in_nI (by omega) (by decide)
theorem SV.d60 (h : SV d p0 p1 ki aa xx yy) : d < 60 := by
  obtain ⟨b, k, h1, h2, h3, h4, h5, h6, h7⟩ := h
  exact h7
theorem sv_in (h : SV d p0 p1 ki aa xx yy) : vp_in p1 480 := sm_in h.sm
/-- the step at its place, as the arrays show it -/
theorem sm_vs (h : SM d p0 ki aa xx yy) : ∃ b : Nat, b < 40 ∧ VS b (ki p0.toNatClampNeg) (aa p0.toNatClampNeg) (xx p0.toNatClampNeg) (yy p0.toNatClampNeg) ∧ 40 ≤ b + 1 + d := by
  obtain ⟨b, k, h1, h2, rfl, h4, h5⟩ := h
  rw [nI_clamp (by omega)]
  exact ⟨b, h1, h4, h5⟩
theorem sv_vs (h : SV d p0 p1 ki aa xx yy) : ∃ b : Nat, b < 40 ∧ p0.toInt = (b : Int) ∧ VS b (ki p1.toNatClampNeg) (aa p1.toNatClampNeg) (xx p1.toNatClampNeg) (yy p1.toNatClampNeg) ∧ 40 ≤ b + 1 + d ∧ d < 60 := by
  obtain ⟨b, k, h1, h2, rfl, h4, h5, rfl, h6⟩ := h
  rw [nI_clamp (by omega)]
  exact ⟨b, h1, nI_ti (by omega), h4, h5, h6⟩
theorem bl_hm {b : Nat} {x : Int32} (h : BL b x) (hd : 40 ≤ b + 1 + d) : HM d x := ⟨by have := h.1; omega, h.2, by have := h.1; omega⟩
theorem bl_hb {b : Nat} {x : Int32} (h : BL b x) (hd : 40 ≤ b + 1 + d ∧ d < 60) (hp : p0.toInt = (b : Int)) : HB4 d x p0 := ⟨by have := h.1; omega, h.2, by have := h.1; omega, by have := h.1; omega, Nat.le_of_lt hd.2⟩
theorem HB4.hm {a b : Int32} (h : HB4 d a b) : HM d a := ⟨h.1, h.2.1, h.2.2.2.1⟩
theorem sv_1 (h : SV d p0 p1 ki aa xx yy) (hk : ki p1.toNatClampNeg = 1) : HB4 d (xx p1.toNatClampNeg) p0 := by
  obtain ⟨b, h1, h2, h3, h4⟩ := sv_vs h
  exact bl_hb (h3.2.1 hk).2 h4 h2
theorem sv_2 (h : SV d p0 p1 ki aa xx yy) (hk : ki p1.toNatClampNeg = 2) : HB4 d (xx p1.toNatClampNeg) p0 := by
  obtain ⟨b, h1, h2, h3, h4⟩ := sv_vs h
  exact bl_hb (h3.2.2.1 hk).2 h4 h2
theorem sv_7x (h : SV d p0 p1 ki aa xx yy) (hk : ki p1.toNatClampNeg = 7) : HB4 d (xx p1.toNatClampNeg) p0 := by
  obtain ⟨b, h1, h2, h3, h4⟩ := sv_vs h
  exact bl_hb (h3.2.2.2.2.1 hk).2.1 h4 h2
theorem sv_7y (h : SV d p0 p1 ki aa xx yy) (hk : ki p1.toNatClampNeg = 7) : HB4 d (yy p1.toNatClampNeg) p0 := by
  obtain ⟨b, h1, h2, h3, h4⟩ := sv_vs h
  exact bl_hb (h3.2.2.2.2.1 hk).2.2 h4 h2
theorem sv_8x (h : SV d p0 p1 ki aa xx yy) (hk : ki p1.toNatClampNeg = 8) : HB4 d (xx p1.toNatClampNeg) p0 := by
  obtain ⟨b, h1, h2, h3, h4⟩ := sv_vs h
  exact bl_hb (h3.2.2.2.2.2.1 hk).1 h4 h2
theorem sv_8y (h : SV d p0 p1 ki aa xx yy) (hk : ki p1.toNatClampNeg = 8) : HB4 d (yy p1.toNatClampNeg) p0 := by
  obtain ⟨b, h1, h2, h3, h4⟩ := sv_vs h
  exact bl_hb (h3.2.2.2.2.2.1 hk).2 h4 h2
theorem sv_9 (h : SV d p0 p1 ki aa xx yy) (hk : ki p1.toNatClampNeg = 9) : HB4 d (xx p1.toNatClampNeg) p0 := by
  obtain ⟨b, h1, h2, h3, h4⟩ := sv_vs h
  exact bl_hb (h3.2.2.2.2.2.2.1 hk) h4 h2
theorem sm_1p (h : SM d p0 ki aa xx yy) (hk : ki p0.toNatClampNeg = 1) : vp_in (aa p0.toNatClampNeg) 6 := by
  obtain ⟨b, h1, h3, h4⟩ := sm_vs h
  exact (h3.2.1 hk).1
theorem sm_1 (h : SM d p0 ki aa xx yy) (hk : ki p0.toNatClampNeg = 1) : HM d (xx p0.toNatClampNeg) := by
  obtain ⟨b, h1, h3, h4⟩ := sm_vs h
  exact bl_hm (h3.2.1 hk).2 h4
theorem sm_2a (h : SM d p0 ki aa xx yy) (hk : ki p0.toNatClampNeg = 2) : (aa p0.toNatClampNeg).toInt ≤ 5 := by
  obtain ⟨b, h1, h3, h4⟩ := sm_vs h
  exact (h3.2.2.1 hk).1.2
theorem sm_2 (h : SM d p0 ki aa xx yy) (hk : ki p0.toNatClampNeg = 2) : HM d (xx p0.toNatClampNeg) := by
  obtain ⟨b, h1, h3, h4⟩ := sm_vs h
  exact bl_hm (h3.2.2.1 hk).2 h4
theorem sm_6 (h : SM d p0 ki aa xx yy) (hk : ki p0.toNatClampNeg = 6) : 1 ≤ (aa p0.toNatClampNeg).toInt ∧ (aa p0.toNatClampNeg).toInt ≤ 9 := by
  obtain ⟨b, h1, h3, h4⟩ := sm_vs h
  exact h3.2.2.2.1 hk
theorem sm_7a (h : SM d p0 ki aa xx yy) (hk : ki p0.toNatClampNeg = 7) : 0 ≤ (aa p0.toNatClampNeg).toInt ∧ (aa p0.toNatClampNeg).toInt ≤ 13 := by
  obtain ⟨b, h1, h3, h4⟩ := sm_vs h
  exact (h3.2.2.2.2.1 hk).1
theorem sm_7x (h : SM d p0 ki aa xx yy) (hk : ki p0.toNatClampNeg = 7) : HM d (xx p0.toNatClampNeg) := by
  obtain ⟨b, h1, h3, h4⟩ := sm_vs h
  exact bl_hm (h3.2.2.2.2.1 hk).2.1 h4
theorem sm_7y (h : SM d p0 ki aa xx yy) (hk : ki p0.toNatClampNeg = 7) : HM d (yy p0.toNatClampNeg) := by
  obtain ⟨b, h1, h3, h4⟩ := sm_vs h
  exact bl_hm (h3.2.2.2.2.1 hk).2.2 h4
theorem sm_8x (h : SM d p0 ki aa xx yy) (hk : ki p0.toNatClampNeg = 8) : HM d (xx p0.toNatClampNeg) := by
  obtain ⟨b, h1, h3, h4⟩ := sm_vs h
  exact bl_hm (h3.2.2.2.2.2.1 hk).1 h4
theorem sm_8y (h : SM d p0 ki aa xx yy) (hk : ki p0.toNatClampNeg = 8) : HM d (yy p0.toNatClampNeg) := by
  obtain ⟨b, h1, h3, h4⟩ := sm_vs h
  exact bl_hm (h3.2.2.2.2.2.1 hk).2 h4
theorem sm_9 (h : SM d p0 ki aa xx yy) (hk : ki p0.toNatClampNeg = 9) : HM d (xx p0.toNatClampNeg) := by
  obtain ⟨b, h1, h3, h4⟩ := sm_vs h
  exact bl_hm (h3.2.2.2.2.2.2.1 hk) h4
theorem sm_10 (h : SM d p0 ki aa xx yy) (hk : ki p0.toNatClampNeg = 10) : vp_in (xx p0.toNatClampNeg) 6 := by
  obtain ⟨b, h1, h3, h4⟩ := sm_vs h
  exact h3.2.2.2.2.2.2.2.1 hk
theorem sm_11a (h : SM d p0 ki aa xx yy) (hk : ki p0.toNatClampNeg = 11) : vp_in (aa p0.toNatClampNeg) 6 := by
  obtain ⟨b, h1, h3, h4⟩ := sm_vs h
  exact (h3.2.2.2.2.2.2.2.2.1 hk).1
theorem sm_11x (h : SM d p0 ki aa xx yy) (hk : ki p0.toNatClampNeg = 11) : vp_in (xx p0.toNatClampNeg) 6 := by
  obtain ⟨b, h1, h3, h4⟩ := sm_vs h
  exact (h3.2.2.2.2.2.2.2.2.1 hk).2
theorem sm_12 (h : SM d p0 ki aa xx yy) (hk : ki p0.toNatClampNeg = 12) : vp_in (aa p0.toNatClampNeg) 6 := by
  obtain ⟨b, h1, h3, h4⟩ := sm_vs h
  exact h3.2.2.2.2.2.2.2.2.2.1 hk
theorem sm_13 (h : SM d p0 ki aa xx yy) (hk : ki p0.toNatClampNeg = 13) : vp_in (aa p0.toNatClampNeg) 6 := by
  obtain ⟨b, h1, h3, h4⟩ := sm_vs h
  exact h3.2.2.2.2.2.2.2.2.2.2 hk
theorem sm_k (h : SM d p0 ki aa xx yy) : 0 ≤ (ki p0.toNatClampNeg).toInt ∧ (ki p0.toNatClampNeg).toInt ≤ 14 := by
  obtain ⟨b, h1, h3, h4⟩ := sm_vs h
  exact h3.1
end SVS
section LT
variable {k d δ : Nat} {x y z v1 v4 p0 p1 : Int32} {ma et sp : Int32} {pl pl_l nu de si si_l ki aa xx yy : Nat → Int32}
theorem lt_nI (hk : k ≤ 100) (e : x = nI k) (h : ¬ 6 ≤ x) : k < 6 := by
  rw [Int32.le_iff_toInt_le, e, nI_ti (by omega), c6] at h
  omega
theorem lt_nI5 (hk : k ≤ 100) (e : x = nI k) (hy : y.toInt ≤ 5) (h : ¬ y ≤ x) : k < 5 := by
  rw [Int32.le_iff_toInt_le, e, nI_ti (by omega)] at h
  omega
theorem min12 (z : Int32) : ((if 12 < z then 12 else z) : Int32).toInt ≤ 12 := by
  split
  · rw [c12]; omega
  · rename_i h
    rw [Int32.lt_iff_toInt_lt, c12] at h
    omega
theorem lt_nI12 (hk : k ≤ 100) (e : x = nI k) (hy : y = (if 12 < z then 12 else z)) (h : ¬ y ≤ x) : k < 12 := by
  have h1 := min12 z
  rw [← hy] at h1
  rw [Int32.le_iff_toInt_le, e, nI_ti (by omega)] at h
  omega
theorem min5_le (x : Int32) : ((if 5 < x then 5 else x) : Int32).toInt ≤ 5 := by
  split
  · rw [c5]; omega
  · rename_i h
    rw [Int32.lt_iff_toInt_lt, c5] at h
    omega
theorem in6 (hk : k ≤ 100) (e : x = nI k) (h : ¬ 6 ≤ x) : vp_in x 6 := by
  have := lt_nI hk e h
  rw [e]
  exact vp_in_nI this (by decide)
theorem pl_ok (hJ : J δ ma et sp pl nu de si ki aa xx yy) (hp : vp_in x 6) (h : ¬ pl x.toNatClampNeg = (-1)) : 0 ≤ (pl x.toNatClampNeg).toInt ∧ (pl x.toNatClampNeg).toInt < ma.toInt := by
  obtain ⟨j, h1, h2, h3⟩ := vpn hp
  have h4 := nei h
  rw [cm1] at h4
  rw [h3] at h4 ⊢
  rcases hJ.2.1 j h1 with q | q
  · exact absurd q h4
  · exact q
theorem tv_in (ht : 0 ≤ x.toInt ∧ x.toInt < ma.toInt) (hJ : J δ ma et sp pl nu de si ki aa xx yy) : vp_in x 60 := by
  rw [vp_in_iff]
  have := hJ.ma60
  omega
theorem pl_in (hJ : J δ ma et sp pl nu de si ki aa xx yy) (hpl : pl_l = pl) (hk : k ≤ 100) (e : x = nI k) (h : ¬ 6 ≤ x) (hn : ¬ pl_l x.toNatClampNeg = (-1)) : vp_in (pl_l x.toNatClampNeg) 60 := by
  subst hpl
  exact tv_in (pl_ok hJ (in6 hk e h) hn) hJ
theorem pv_1 (hV : SM d p0 ki aa xx yy) (hJ : J δ ma et sp pl nu de si ki aa xx yy) (hk : ki p0.toNatClampNeg = 1) (hn : ¬ pl (aa p0.toNatClampNeg).toNatClampNeg = (-1)) : 0 ≤ (pl (aa p0.toNatClampNeg).toNatClampNeg).toInt ∧ (pl (aa p0.toNatClampNeg).toNatClampNeg).toInt < ma.toInt := pl_ok hJ (sm_1p hV hk) hn
theorem pv_10 (hV : SM d p0 ki aa xx yy) (hJ : J δ ma et sp pl nu de si ki aa xx yy) (hk : ki p0.toNatClampNeg = 10) : pl (xx p0.toNatClampNeg).toNatClampNeg = (-1) ∨ vp_in (pl (xx p0.toNatClampNeg).toNatClampNeg) 60 := by
  by_cases hn : pl (xx p0.toNatClampNeg).toNatClampNeg = (-1)
  · exact Or.inl hn
  · exact Or.inr (tv_in (pl_ok hJ (sm_10 hV hk) hn) hJ)
theorem ma_in (hJ : J δ ma et sp pl nu de si ki aa xx yy) (h : ¬ ma = 60) : vp_in ma 60 := by
  have h1 := nei h
  rw [c60] at h1
  rw [vp_in_iff]
  have := hJ.1
  omega
theorem hb_in (h : HB4 d p0 p1) : vp_in p0 40 := by
  rw [vp_in_iff]
  exact ⟨h.1, h.2.1⟩
theorem hm_in (h : HM d p0) (e : v1 = p0) : vp_in v1 40 := by
  rw [vp_in_iff, e]
  exact ⟨h.1, h.2.1⟩
theorem mul12 {b k : Nat} (hb : b < 40) (hk : k < 12) : nI b * 12 + nI k = nI (12 * b + k) := by
  rw [show (12 : Int32) = nI 12 by decide, pk_mul, nI_add, Nat.mul_comm]
theorem mul12' {b k : Nat} (hb : b < 40) (hk : k < 12) : 12 * nI b + nI k = nI (12 * b + k) := by
  rw [show (12 : Int32) = nI 12 by decide, pk_mul, nI_add]
theorem lt_si (hB : HM (d + 1) p0) (e1 : v1 = p0) (hk : k ≤ 100) (e : x = nI k) (h : ¬ si v1.toNatClampNeg ≤ x) (hJ : J δ ma et sp pl nu de si ki aa xx yy) : k < 12 := by
  obtain ⟨j, h1, h2, h3⟩ := vpn (hm_in hB e1)
  rw [Int32.le_iff_toInt_le, e, nI_ti (by omega), h3] at h
  have := (hJ.pv j h1).1
  omega
theorem sm_of (hB : HM (d + 1) p0) (e1 : v1 = p0) (hk : k ≤ 100) (e : x = nI k) (h : ¬ si v1.toNatClampNeg ≤ x) (hJ : J δ ma et sp pl nu de si ki aa xx yy) : SM d (12 * v1 + x) ki aa xx yy := by
  have hk12 := lt_si hB e1 hk e h hJ
  obtain ⟨j, h1, h2, h3⟩ := vpn (hm_in hB e1)
  rw [Int32.le_iff_toInt_le, e, nI_ti (by omega), h3] at h
  have hv : v1 = nI j := eqi (by rw [h2, nI_ti (by omega)])
  refine ⟨j, k, h1, hk12, by rw [hv, e, mul12' h1 hk12], (hJ.pv j h1).2 k (by omega), ?_⟩
  have := hB.2.2
  rw [← e1] at this
  omega
theorem sv_of (hB : HB4 (d + 1) p0 p1) (e1 : v1 = p0) (e4 : v4 = (if 12 < si p0.toNatClampNeg then 12 else si p0.toNatClampNeg)) (esi : si_l = si) (hk : k ≤ 100) (e : x = nI k) (h : ¬ v4 ≤ x) (hJ : J δ ma et sp pl nu de si_l ki aa xx yy) : SV d v1 (v1 * 12 + x) ki aa xx yy := by
  subst esi
  have hk12 := lt_nI12 hk e e4 h
  obtain ⟨j, h1, h2, h3⟩ := vpn (hb_in hB)
  have hv : v1 = nI j := by rw [e1]; exact eqi (by rw [h2, nI_ti (by omega)])
  have h9 := (hJ.pv j h1).1
  have hk3 : (k : Int) < (si_l j).toInt := by
    rw [e4, h3] at h
    rw [Int32.le_iff_toInt_le, e, nI_ti (by omega)] at h
    split at h
    · rw [c12] at h
      rename_i q
      rw [Int32.lt_iff_toInt_lt, c12] at q
      omega
    · omega
  refine ⟨j, k, h1, hk12, by rw [hv, e, mul12 h1 hk12], (hJ.pv j h1).2 k hk3, ?_, hv, ?_⟩
  · have := hB.2.2.2
    omega
  · have := hB.2.2.2
    omega
theorem et_up {et et' : Int32} {B : Int} (h0 : 0 ≤ et.toInt) (hB : et.toInt ≤ B) (e : et' = et + 1) (hb : B ≤ 10000) : 0 ≤ et'.toInt ∧ et'.toInt ≤ B + 1 := by
  have h1 : (et + 1).toInt = et.toInt + 1 := inc1 h0 (by omega)
  rw [e, h1]
  omega
end LT
end
section
abbrev TRC : Type := Int32 → Int32 → (Nat → Int32) → (Nat → Int32) → (Nat → Int32) → Int32 → (Nat → Int32) → (Nat → Int32) → (Nat → Int32) → (Nat → Int32) → (Nat → Int32) → Int32 → Int32 → Int32 → Int32 → Int32 → Int32 → (Nat → Int32) → Int32 → Int32 → Int32 → Int32 × Int32 × Int32 × (Nat → Int32) × (Nat → Int32) × (Nat → Int32) × Int32 × (Nat → Int32) × (Nat → Int32) × (Nat → Int32) × (Nat → Int32) × (Nat → Int32) × Int32 × Int32 × Int32 × Int32 × Int32 × Int32 × (Nat → Int32)
def f_X1_beginHold (rf : Int32) (ma : Int32) (pl : Nat → Int32) (nu : Nat → Int32) (de : Nat → Int32) (to : Int32) (si : Nat → Int32) (ki : Nat → Int32) (aa : Nat → Int32) (xx : Nat → Int32) (yy : Nat → Int32) (et : Int32) (sp : Int32) (ho : Int32) (uw : Int32) (mo : Int32) (cs : Int32) (en : Nat → Int32) (p0 : Int32) : Int32 × Int32 × (Nat → Int32) × (Nat → Int32) × (Nat → Int32) × Int32 × (Nat → Int32) × (Nat → Int32) × (Nat → Int32) × (Nat → Int32) × (Nat → Int32) × Int32 × Int32 × Int32 × Int32 × Int32 × Int32 × (Nat → Int32) := (match f_X2_deepen ma pl nu de p0 1 with | (ma_1, pl_1, nu_1, de_1) => (match f_X3_enterBegun et sp ho uw mo cs en p0 with | (et_2, sp_2, ho_2, uw_2, mo_2, cs_2, en_2) => (rf, ma_1, pl_1, nu_1, de_1, to, si, ki, aa, xx, yy, et_2, sp_2, ho_2, uw_2, mo_2, cs_2, en_2)))
def f_X1_leaveHold (rf : Int32) (ma : Int32) (pl : Nat → Int32) (nu : Nat → Int32) (de : Nat → Int32) (to : Int32) (si : Nat → Int32) (ki : Nat → Int32) (aa : Nat → Int32) (xx : Nat → Int32) (yy : Nat → Int32) (et : Int32) (sp : Int32) (ho : Int32) (uw : Int32) (mo : Int32) (cs : Int32) (en : Nat → Int32) (p0 : Int32) (p1 : Int32) : Int32 × Int32 × (Nat → Int32) × (Nat → Int32) × (Nat → Int32) × Int32 × (Nat → Int32) × (Nat → Int32) × (Nat → Int32) × (Nat → Int32) × (Nat → Int32) × Int32 × Int32 × Int32 × Int32 × Int32 × Int32 × (Nat → Int32) := (match f_X2_deepen ma pl nu de p0 (-1) with | (ma_1, pl_1, nu_1, de_1) => (match f_X3_enterLeft et sp ho uw mo cs en p0 p1 with | (et_2, sp_2, ho_2, uw_2, mo_2, cs_2, en_2) => (rf, ma_1, pl_1, nu_1, de_1, to, si, ki, aa, xx, yy, et_2, sp_2, ho_2, uw_2, mo_2, cs_2, en_2)))
def f_X1_doAdd (rf : Int32) (ma : Int32) (pl : Nat → Int32) (nu : Nat → Int32) (de : Nat → Int32) (to : Int32) (si : Nat → Int32) (ki : Nat → Int32) (aa : Nat → Int32) (xx : Nat → Int32) (yy : Nat → Int32) (et : Int32) (sp : Int32) (ho : Int32) (uw : Int32) (mo : Int32) (cs : Int32) (en : Nat → Int32) (p0 : Int32) (p1 : Int32) : Int32 × Int32 × Int32 × (Nat → Int32) × (Nat → Int32) × (Nat → Int32) × Int32 × (Nat → Int32) × (Nat → Int32) × (Nat → Int32) × (Nat → Int32) × (Nat → Int32) × Int32 × Int32 × Int32 × Int32 × Int32 × Int32 × (Nat → Int32) := (if (f_X2_thingIn ma pl nu de p1) = (-1) then (112, rf, ma, pl, nu, de, to, si, ki, aa, xx, yy, et, sp, ho, uw, mo, cs, en) else (if (f_X2_isHeld ma pl nu de (f_X2_thingIn ma pl nu de p1)) = 0 then (111, rf, ma, pl, nu, de, to, si, ki, aa, xx, yy, et, sp, ho, uw, mo, cs, en) else (match f_X2_raiseNumber ma pl nu de (f_X2_thingIn ma pl nu de p1) p0 with | (ma_3, pl_3, nu_3, de_3) => (0, rf, ma_3, pl_3, nu_3, de_3, to, si, ki, aa, xx, yy, et, sp, ho, uw, mo, cs, en))))
def f_X1_doNew (rf : Int32) (ma : Int32) (pl : Nat → Int32) (nu : Nat → Int32) (de : Nat → Int32) (to : Int32) (si : Nat → Int32) (ki : Nat → Int32) (aa : Nat → Int32) (xx : Nat → Int32) (yy : Nat → Int32) (et : Int32) (sp : Int32) (ho : Int32) (uw : Int32) (mo : Int32) (cs : Int32) (en : Nat → Int32) (p0 : Int32) : Int32 × Int32 × Int32 × (Nat → Int32) × (Nat → Int32) × (Nat → Int32) × Int32 × (Nat → Int32) × (Nat → Int32) × (Nat → Int32) × (Nat → Int32) × (Nat → Int32) × Int32 × Int32 × Int32 × Int32 × Int32 × Int32 × (Nat → Int32) := (match f_X2_makeThing ma pl nu de p0 with | (r_1, ma_1, pl_1, nu_1, de_1) => (if r_1 = (-3) then (113, rf, ma_1, pl_1, nu_1, de_1, to, si, ki, aa, xx, yy, et, sp, ho, uw, mo, cs, en) else (0, rf, ma_1, pl_1, nu_1, de_1, to, si, ki, aa, xx, yy, et, sp, ho, uw, mo, cs, en)))
def L_X1_doSweep_7 : Nat → Int32 → Int32 → Int32 → Int32 → Int32 → Int32 → (Nat → Int32) → (Nat → Int32) → (Nat → Int32) → Int32 → (Nat → Int32) → (Nat → Int32) → (Nat → Int32) → (Nat → Int32) → (Nat → Int32) → Int32 → Int32 → Int32 → Int32 → Int32 → Int32 → (Nat → Int32) → Int32 × Int32 × (Nat → Int32) × (Nat → Int32) × (Nat → Int32) × Int32 × (Nat → Int32) × (Nat → Int32) × (Nat → Int32) × (Nat → Int32) × (Nat → Int32) × Int32 × Int32 × Int32 × Int32 × Int32 × Int32 × (Nat → Int32)
  | 0, v1, v2, v3, v4, rf_l, ma_l, pl_l, nu_l, de_l, to_l, si_l, ki_l, aa_l, xx_l, yy_l, et_l, sp_l, ho_l, uw_l, mo_l, cs_l, en_l => (rf_l, ma_l, pl_l, nu_l, de_l, to_l, si_l, ki_l, aa_l, xx_l, yy_l, et_l, sp_l, ho_l, uw_l, mo_l, cs_l, en_l)
  | n + 1, v1, v2, v3, v4, rf_l, ma_l, pl_l, nu_l, de_l, to_l, si_l, ki_l, aa_l, xx_l, yy_l, et_l, sp_l, ho_l, uw_l, mo_l, cs_l, en_l => (if 6 ≤ v4 then (match f_X3_enterMark et_l sp_l ho_l uw_l mo_l cs_l en_l v2 with | (et_2, sp_2, ho_2, uw_2, mo_2, cs_2, en_2) => (rf_l, ma_l, pl_l, nu_l, de_l, to_l, si_l, ki_l, aa_l, xx_l, yy_l, et_2, sp_2, ho_2, uw_2, mo_2, cs_2, en_2)) else (if v3 = 0 then (if (f_X2_thingIn ma_l pl_l nu_l de_l v4) = (-1) then (L_X1_doSweep_7 n v1 v2 v3 (v4 + 1) rf_l ma_l pl_l nu_l de_l to_l si_l ki_l aa_l xx_l yy_l et_l sp_l ho_l uw_l mo_l cs_l en_l) else (match f_X1_beginHold rf_l ma_l pl_l nu_l de_l to_l si_l ki_l aa_l xx_l yy_l et_l sp_l ho_l uw_l mo_l cs_l en_l (f_X2_thingIn ma_l pl_l nu_l de_l v4) with | (rf_6, ma_6, pl_6, nu_6, de_6, to_6, si_6, ki_6, aa_6, xx_6, yy_6, et_6, sp_6, ho_6, uw_6, mo_6, cs_6, en_6) => (if (f_X2_numberOf ma_6 pl_6 nu_6 de_6 (f_X2_thingIn ma_l pl_l nu_l de_l v4)) = v1 then (match f_X1_leaveHold rf_6 ma_6 pl_6 nu_6 de_6 to_6 si_6 ki_6 aa_6 xx_6 yy_6 et_6 sp_6 ho_6 uw_6 mo_6 cs_6 en_6 (f_X2_thingIn ma_l pl_l nu_l de_l v4) 0 with | (rf_8, ma_8, pl_8, nu_8, de_8, to_8, si_8, ki_8, aa_8, xx_8, yy_8, et_8, sp_8, ho_8, uw_8, mo_8, cs_8, en_8) => (L_X1_doSweep_7 n v1 v2 v3 (v4 + 1) rf_8 ma_8 pl_8 nu_8 de_8 to_8 si_8 ki_8 aa_8 xx_8 yy_8 et_8 sp_8 ho_8 uw_8 mo_8 cs_8 en_8)) else (if 0 ≤ (f_X2_numberOf ma_6 pl_6 nu_6 de_6 (f_X2_thingIn ma_l pl_l nu_l de_l v4)) then (match f_X1_leaveHold rf_6 ma_6 pl_6 nu_6 de_6 to_6 si_6 ki_6 aa_6 xx_6 yy_6 et_6 sp_6 ho_6 uw_6 mo_6 cs_6 en_6 (f_X2_thingIn ma_l pl_l nu_l de_l v4) 0 with | (rf_10, ma_10, pl_10, nu_10, de_10, to_10, si_10, ki_10, aa_10, xx_10, yy_10, et_10, sp_10, ho_10, uw_10, mo_10, cs_10, en_10) => (L_X1_doSweep_7 n v1 (v2 + (f_X2_numberOf ma_6 pl_6 nu_6 de_6 (f_X2_thingIn ma_l pl_l nu_l de_l v4))) 0 (v4 + 1) rf_10 ma_10 pl_10 nu_10 de_10 to_10 si_10 ki_10 aa_10 xx_10 yy_10 et_10 sp_10 ho_10 uw_10 mo_10 cs_10 en_10)) else (match f_X1_leaveHold rf_6 ma_6 pl_6 nu_6 de_6 to_6 si_6 ki_6 aa_6 xx_6 yy_6 et_6 sp_6 ho_6 uw_6 mo_6 cs_6 en_6 (f_X2_thingIn ma_l pl_l nu_l de_l v4) 0 with | (rf_11, ma_11, pl_11, nu_11, de_11, to_11, si_11, ki_11, aa_11, xx_11, yy_11, et_11, sp_11, ho_11, uw_11, mo_11, cs_11, en_11) => (L_X1_doSweep_7 n v1 (v2 + (f_X2_numberOf ma_6 pl_6 nu_6 de_6 (f_X2_thingIn ma_l pl_l nu_l de_l v4))) 1 (v4 + 1) rf_11 ma_11 pl_11 nu_11 de_11 to_11 si_11 ki_11 aa_11 xx_11 yy_11 et_11 sp_11 ho_11 uw_11 mo_11 cs_11 en_11)))))) else (match f_X3_enterMark et_l sp_l ho_l uw_l mo_l cs_l en_l v2 with | (et_4, sp_4, ho_4, uw_4, mo_4, cs_4, en_4) => (rf_l, ma_l, pl_l, nu_l, de_l, to_l, si_l, ki_l, aa_l, xx_l, yy_l, et_4, sp_4, ho_4, uw_4, mo_4, cs_4, en_4))))
def f_X1_doSweep (rf : Int32) (ma : Int32) (pl : Nat → Int32) (nu : Nat → Int32) (de : Nat → Int32) (to : Int32) (si : Nat → Int32) (ki : Nat → Int32) (aa : Nat → Int32) (xx : Nat → Int32) (yy : Nat → Int32) (et : Int32) (sp : Int32) (ho : Int32) (uw : Int32) (mo : Int32) (cs : Int32) (en : Nat → Int32) (p0 : Int32) : Int32 × Int32 × (Nat → Int32) × (Nat → Int32) × (Nat → Int32) × Int32 × (Nat → Int32) × (Nat → Int32) × (Nat → Int32) × (Nat → Int32) × (Nat → Int32) × Int32 × Int32 × Int32 × Int32 × Int32 × Int32 × (Nat → Int32) := (L_X1_doSweep_7 7 p0 0 0 0 rf ma pl nu de to si ki aa xx yy et sp ho uw mo cs en)
def f_X1_doCall (rc : TRC) (rf : Int32) (ma : Int32) (pl : Nat → Int32) (nu : Nat → Int32) (de : Nat → Int32) (to : Int32) (si : Nat → Int32) (ki : Nat → Int32) (aa : Nat → Int32) (xx : Nat → Int32) (yy : Nat → Int32) (et : Int32) (sp : Int32) (ho : Int32) (uw : Int32) (mo : Int32) (cs : Int32) (en : Nat → Int32) (p0 : Int32) (p1 : Int32) : Int32 × Int32 × Int32 × (Nat → Int32) × (Nat → Int32) × (Nat → Int32) × Int32 × (Nat → Int32) × (Nat → Int32) × (Nat → Int32) × (Nat → Int32) × (Nat → Int32) × Int32 × Int32 × Int32 × Int32 × Int32 × Int32 × (Nat → Int32) := (match rc rf ma pl nu de to si ki aa xx yy et sp ho uw mo cs en p0 p1 0 with | (r_1, rf_1, ma_1, pl_1, nu_1, de_1, to_1, si_1, ki_1, aa_1, xx_1, yy_1, et_1, sp_1, ho_1, uw_1, mo_1, cs_1, en_1) => (if r_1 = 3 then (0, rf_1, ma_1, pl_1, nu_1, de_1, to_1, si_1, ki_1, aa_1, xx_1, yy_1, et_1, sp_1, ho_1, uw_1, mo_1, cs_1, en_1) else (r_1, rf_1, ma_1, pl_1, nu_1, de_1, to_1, si_1, ki_1, aa_1, xx_1, yy_1, et_1, sp_1, ho_1, uw_1, mo_1, cs_1, en_1)))
def f_X1_doBoth (rc : TRC) (rf : Int32) (ma : Int32) (pl : Nat → Int32) (nu : Nat → Int32) (de : Nat → Int32) (to : Int32) (si : Nat → Int32) (ki : Nat → Int32) (aa : Nat → Int32) (xx : Nat → Int32) (yy : Nat → Int32) (et : Int32) (sp : Int32) (ho : Int32) (uw : Int32) (mo : Int32) (cs : Int32) (en : Nat → Int32) (p0 : Int32) (p1 : Int32) (p2 : Int32) (p3 : Int32) : Int32 × Int32 × Int32 × (Nat → Int32) × (Nat → Int32) × (Nat → Int32) × Int32 × (Nat → Int32) × (Nat → Int32) × (Nat → Int32) × (Nat → Int32) × (Nat → Int32) × Int32 × Int32 × Int32 × Int32 × Int32 × Int32 × (Nat → Int32) := (match rc rf ma pl nu de to si ki aa xx yy et sp ho uw mo cs en p0 p2 p3 with | (r_1, rf_1, ma_1, pl_1, nu_1, de_1, to_1, si_1, ki_1, aa_1, xx_1, yy_1, et_1, sp_1, ho_1, uw_1, mo_1, cs_1, en_1) => (if r_1 = 5 then (5, rf_1, ma_1, pl_1, nu_1, de_1, to_1, si_1, ki_1, aa_1, xx_1, yy_1, et_1, sp_1, ho_1, uw_1, mo_1, cs_1, en_1) else (match rc rf_1 ma_1 pl_1 nu_1 de_1 to_1 si_1 ki_1 aa_1 xx_1 yy_1 et_1 sp_1 ho_1 uw_1 mo_1 cs_1 en_1 p1 p2 p3 with | (r_3, rf_3, ma_3, pl_3, nu_3, de_3, to_3, si_3, ki_3, aa_3, xx_3, yy_3, et_3, sp_3, ho_3, uw_3, mo_3, cs_3, en_3) => (if r_3 = 0 then (r_1, rf_3, ma_3, pl_3, nu_3, de_3, to_3, si_3, ki_3, aa_3, xx_3, yy_3, et_3, sp_3, ho_3, uw_3, mo_3, cs_3, en_3) else (r_3, rf_3, ma_3, pl_3, nu_3, de_3, to_3, si_3, ki_3, aa_3, xx_3, yy_3, et_3, sp_3, ho_3, uw_3, mo_3, cs_3, en_3)))))
def f_X1_doTry (rc : TRC) (rf : Int32) (ma : Int32) (pl : Nat → Int32) (nu : Nat → Int32) (de : Nat → Int32) (to : Int32) (si : Nat → Int32) (ki : Nat → Int32) (aa : Nat → Int32) (xx : Nat → Int32) (yy : Nat → Int32) (et : Int32) (sp : Int32) (ho : Int32) (uw : Int32) (mo : Int32) (cs : Int32) (en : Nat → Int32) (p0 : Int32) (p1 : Int32) (p2 : Int32) (p3 : Int32) (p4 : Int32) : Int32 × Int32 × Int32 × (Nat → Int32) × (Nat → Int32) × (Nat → Int32) × Int32 × (Nat → Int32) × (Nat → Int32) × (Nat → Int32) × (Nat → Int32) × (Nat → Int32) × Int32 × Int32 × Int32 × Int32 × Int32 × Int32 × (Nat → Int32) := (match rc rf ma pl nu de to si ki aa xx yy et sp ho uw mo cs en p1 p3 p4 with | (r_1, rf_1, ma_1, pl_1, nu_1, de_1, to_1, si_1, ki_1, aa_1, xx_1, yy_1, et_1, sp_1, ho_1, uw_1, mo_1, cs_1, en_1) => (if (f_X4_isThrown r_1) = 0 then (r_1, rf_1, ma_1, pl_1, nu_1, de_1, to_1, si_1, ki_1, aa_1, xx_1, yy_1, et_1, sp_1, ho_1, uw_1, mo_1, cs_1, en_1) else (if p0 = 0 then (match rc rf_1 ma_1 pl_1 nu_1 de_1 to_1 si_1 ki_1 aa_1 xx_1 yy_1 et_1 sp_1 ho_1 uw_1 mo_1 cs_1 en_1 p2 p3 p4 with | (r_6, rf_6, ma_6, pl_6, nu_6, de_6, to_6, si_6, ki_6, aa_6, xx_6, yy_6, et_6, sp_6, ho_6, uw_6, mo_6, cs_6, en_6) => (r_6, rf_6, ma_6, pl_6, nu_6, de_6, to_6, si_6, ki_6, aa_6, xx_6, yy_6, et_6, sp_6, ho_6, uw_6, mo_6, cs_6, en_6)) else (if r_1 = (100 + p0) then (match rc rf_1 ma_1 pl_1 nu_1 de_1 to_1 si_1 ki_1 aa_1 xx_1 yy_1 et_1 sp_1 ho_1 uw_1 mo_1 cs_1 en_1 p2 p3 p4 with | (r_10, rf_10, ma_10, pl_10, nu_10, de_10, to_10, si_10, ki_10, aa_10, xx_10, yy_10, et_10, sp_10, ho_10, uw_10, mo_10, cs_10, en_10) => (r_10, rf_10, ma_10, pl_10, nu_10, de_10, to_10, si_10, ki_10, aa_10, xx_10, yy_10, et_10, sp_10, ho_10, uw_10, mo_10, cs_10, en_10)) else (r_1, rf_1, ma_1, pl_1, nu_1, de_1, to_1, si_1, ki_1, aa_1, xx_1, yy_1, et_1, sp_1, ho_1, uw_1, mo_1, cs_1, en_1)))))
def L_X1_doLoop_10 (rc : TRC) : Nat → Int32 → Int32 → Int32 → Int32 → Int32 → Int32 → Int32 → (Nat → Int32) → (Nat → Int32) → (Nat → Int32) → Int32 → (Nat → Int32) → (Nat → Int32) → (Nat → Int32) → (Nat → Int32) → (Nat → Int32) → Int32 → Int32 → Int32 → Int32 → Int32 → Int32 → (Nat → Int32) → Int32 × Int32 × Int32 × (Nat → Int32) × (Nat → Int32) × (Nat → Int32) × Int32 × (Nat → Int32) × (Nat → Int32) × (Nat → Int32) × (Nat → Int32) × (Nat → Int32) × Int32 × Int32 × Int32 × Int32 × Int32 × Int32 × (Nat → Int32)
  | 0, v1, v2, v3, v4, v5, rf_l, ma_l, pl_l, nu_l, de_l, to_l, si_l, ki_l, aa_l, xx_l, yy_l, et_l, sp_l, ho_l, uw_l, mo_l, cs_l, en_l => (0, rf_l, ma_l, pl_l, nu_l, de_l, to_l, si_l, ki_l, aa_l, xx_l, yy_l, et_l, sp_l, ho_l, uw_l, mo_l, cs_l, en_l)
  | n + 1, v1, v2, v3, v4, v5, rf_l, ma_l, pl_l, nu_l, de_l, to_l, si_l, ki_l, aa_l, xx_l, yy_l, et_l, sp_l, ho_l, uw_l, mo_l, cs_l, en_l => (if v4 ≤ v5 then (0, rf_l, ma_l, pl_l, nu_l, de_l, to_l, si_l, ki_l, aa_l, xx_l, yy_l, et_l, sp_l, ho_l, uw_l, mo_l, cs_l, en_l) else (match rc rf_l ma_l pl_l nu_l de_l to_l si_l ki_l aa_l xx_l yy_l et_l sp_l ho_l uw_l mo_l cs_l en_l v2 v3 1 with | (r_2, rf_2, ma_2, pl_2, nu_2, de_2, to_2, si_2, ki_2, aa_2, xx_2, yy_2, et_2, sp_2, ho_2, uw_2, mo_2, cs_2, en_2) => (if r_2 = 1 then (0, rf_2, ma_2, pl_2, nu_2, de_2, to_2, si_2, ki_2, aa_2, xx_2, yy_2, et_2, sp_2, ho_2, uw_2, mo_2, cs_2, en_2) else (if r_2 = 0 then (L_X1_doLoop_10 rc n v1 v2 v3 v4 (v5 + 1) rf_2 ma_2 pl_2 nu_2 de_2 to_2 si_2 ki_2 aa_2 xx_2 yy_2 et_2 sp_2 ho_2 uw_2 mo_2 cs_2 en_2) else (if r_2 = 2 then (L_X1_doLoop_10 rc n v1 v2 v3 v4 (v5 + 1) rf_2 ma_2 pl_2 nu_2 de_2 to_2 si_2 ki_2 aa_2 xx_2 yy_2 et_2 sp_2 ho_2 uw_2 mo_2 cs_2 en_2) else (r_2, rf_2, ma_2, pl_2, nu_2, de_2, to_2, si_2, ki_2, aa_2, xx_2, yy_2, et_2, sp_2, ho_2, uw_2, mo_2, cs_2, en_2))))))
def f_X1_doLoop (rc : TRC) (rf : Int32) (ma : Int32) (pl : Nat → Int32) (nu : Nat → Int32) (de : Nat → Int32) (to : Int32) (si : Nat → Int32) (ki : Nat → Int32) (aa : Nat → Int32) (xx : Nat → Int32) (yy : Nat → Int32) (et : Int32) (sp : Int32) (ho : Int32) (uw : Int32) (mo : Int32) (cs : Int32) (en : Nat → Int32) (p0 : Int32) (p1 : Int32) (p2 : Int32) : Int32 × Int32 × Int32 × (Nat → Int32) × (Nat → Int32) × (Nat → Int32) × Int32 × (Nat → Int32) × (Nat → Int32) × (Nat → Int32) × (Nat → Int32) × (Nat → Int32) × Int32 × Int32 × Int32 × Int32 × Int32 × Int32 × (Nat → Int32) := (L_X1_doLoop_10 rc 6 p0 p1 p2 (if 5 < p0 then 5 else p0) 0 rf ma pl nu de to si ki aa xx yy et sp ho uw mo cs en)
def f_X1_doHold (rc : TRC) (rf : Int32) (ma : Int32) (pl : Nat → Int32) (nu : Nat → Int32) (de : Nat → Int32) (to : Int32) (si : Nat → Int32) (ki : Nat → Int32) (aa : Nat → Int32) (xx : Nat → Int32) (yy : Nat → Int32) (et : Int32) (sp : Int32) (ho : Int32) (uw : Int32) (mo : Int32) (cs : Int32) (en : Nat → Int32) (p0 : Int32) (p1 : Int32) (p2 : Int32) (p3 : Int32) : Int32 × Int32 × Int32 × (Nat → Int32) × (Nat → Int32) × (Nat → Int32) × Int32 × (Nat → Int32) × (Nat → Int32) × (Nat → Int32) × (Nat → Int32) × (Nat → Int32) × Int32 × Int32 × Int32 × Int32 × Int32 × Int32 × (Nat → Int32) := (if (f_X2_thingIn ma pl nu de p0) = (-1) then (112, (rf + 1), ma, pl, nu, de, to, si, ki, aa, xx, yy, et, sp, ho, uw, mo, cs, en) else (match f_X1_beginHold rf ma pl nu de to si ki aa xx yy et sp ho uw mo cs en (f_X2_thingIn ma pl nu de p0) with | (rf_2, ma_2, pl_2, nu_2, de_2, to_2, si_2, ki_2, aa_2, xx_2, yy_2, et_2, sp_2, ho_2, uw_2, mo_2, cs_2, en_2) => (match rc rf_2 ma_2 pl_2 nu_2 de_2 to_2 si_2 ki_2 aa_2 xx_2 yy_2 et_2 sp_2 ho_2 uw_2 mo_2 cs_2 en_2 p1 p2 p3 with | (r_3, rf_3, ma_3, pl_3, nu_3, de_3, to_3, si_3, ki_3, aa_3, xx_3, yy_3, et_3, sp_3, ho_3, uw_3, mo_3, cs_3, en_3) => (if (f_X4_isThrown r_3) = 0 then (match f_X1_leaveHold rf_3 ma_3 pl_3 nu_3 de_3 to_3 si_3 ki_3 aa_3 xx_3 yy_3 et_3 sp_3 ho_3 uw_3 mo_3 cs_3 en_3 (f_X2_thingIn ma pl nu de p0) r_3 with | (rf_5, ma_5, pl_5, nu_5, de_5, to_5, si_5, ki_5, aa_5, xx_5, yy_5, et_5, sp_5, ho_5, uw_5, mo_5, cs_5, en_5) => (r_3, rf_5, ma_5, pl_5, nu_5, de_5, to_5, si_5, ki_5, aa_5, xx_5, yy_5, et_5, sp_5, ho_5, uw_5, mo_5, cs_5, en_5)) else (match f_X1_leaveHold rf_3 ma_3 pl_3 nu_3 de_3 to_3 si_3 ki_3 aa_3 xx_3 yy_3 et_3 sp_3 ho_3 uw_3 mo_3 cs_3 en_3 (f_X2_thingIn ma pl nu de p0) 4 with | (rf_6, ma_6, pl_6, nu_6, de_6, to_6, si_6, ki_6, aa_6, xx_6, yy_6, et_6, sp_6, ho_6, uw_6, mo_6, cs_6, en_6) => (r_3, rf_6, ma_6, pl_6, nu_6, de_6, to_6, si_6, ki_6, aa_6, xx_6, yy_6, et_6, sp_6, ho_6, uw_6, mo_6, cs_6, en_6))))))
def f_X1_doStep (rc : TRC) (rf : Int32) (ma : Int32) (pl : Nat → Int32) (nu : Nat → Int32) (de : Nat → Int32) (to : Int32) (si : Nat → Int32) (ki : Nat → Int32) (aa : Nat → Int32) (xx : Nat → Int32) (yy : Nat → Int32) (et : Int32) (sp : Int32) (ho : Int32) (uw : Int32) (mo : Int32) (cs : Int32) (en : Nat → Int32) (p0 : Int32) (p1 : Int32) (p2 : Int32) : Int32 × Int32 × Int32 × (Nat → Int32) × (Nat → Int32) × (Nat → Int32) × Int32 × (Nat → Int32) × (Nat → Int32) × (Nat → Int32) × (Nat → Int32) × (Nat → Int32) × Int32 × Int32 × Int32 × Int32 × Int32 × Int32 × (Nat → Int32) := (if sp < 300 then (if (ki p1.toNatClampNeg) = 0 then (match f_X3_enterMark et (sp + 1) ho uw mo cs en (aa p1.toNatClampNeg) with | (et_3, sp_3, ho_3, uw_3, mo_3, cs_3, en_3) => (0, rf, ma, pl, nu, de, to, si, ki, aa, xx, yy, et_3, sp_3, ho_3, uw_3, mo_3, cs_3, en_3)) else (if (ki p1.toNatClampNeg) = 1 then (match f_X1_doHold rc rf ma pl nu de to si ki aa xx yy et (sp + 1) ho uw mo cs en (aa p1.toNatClampNeg) (xx p1.toNatClampNeg) p0 p2 with | (r_5, rf_5, ma_5, pl_5, nu_5, de_5, to_5, si_5, ki_5, aa_5, xx_5, yy_5, et_5, sp_5, ho_5, uw_5, mo_5, cs_5, en_5) => (r_5, rf_5, ma_5, pl_5, nu_5, de_5, to_5, si_5, ki_5, aa_5, xx_5, yy_5, et_5, sp_5, ho_5, uw_5, mo_5, cs_5, en_5)) else (if (ki p1.toNatClampNeg) = 2 then (match f_X1_doLoop rc rf ma pl nu de to si ki aa xx yy et (sp + 1) ho uw mo cs en (aa p1.toNatClampNeg) (xx p1.toNatClampNeg) p0 with | (r_7, rf_7, ma_7, pl_7, nu_7, de_7, to_7, si_7, ki_7, aa_7, xx_7, yy_7, et_7, sp_7, ho_7, uw_7, mo_7, cs_7, en_7) => (r_7, rf_7, ma_7, pl_7, nu_7, de_7, to_7, si_7, ki_7, aa_7, xx_7, yy_7, et_7, sp_7, ho_7, uw_7, mo_7, cs_7, en_7)) else (if (ki p1.toNatClampNeg) = 3 then (if p2 = 0 then (3, rf, ma, pl, nu, de, to, si, ki, aa, xx, yy, et, (sp + 1), ho, uw, mo, cs, en) else (1, rf, ma, pl, nu, de, to, si, ki, aa, xx, yy, et, (sp + 1), ho, uw, mo, cs, en)) else (if (ki p1.toNatClampNeg) = 4 then (if p2 = 0 then (3, rf, ma, pl, nu, de, to, si, ki, aa, xx, yy, et, (sp + 1), ho, uw, mo, cs, en) else (2, rf, ma, pl, nu, de, to, si, ki, aa, xx, yy, et, (sp + 1), ho, uw, mo, cs, en)) else (if (ki p1.toNatClampNeg) = 5 then (3, rf, ma, pl, nu, de, to, si, ki, aa, xx, yy, et, (sp + 1), ho, uw, mo, cs, en) else (if (ki p1.toNatClampNeg) = 6 then ((100 + (aa p1.toNatClampNeg)), rf, ma, pl, nu, de, to, si, ki, aa, xx, yy, et, (sp + 1), ho, uw, mo, cs, en) else (if (ki p1.toNatClampNeg) = 7 then (match f_X1_doTry rc rf ma pl nu de to si ki aa xx yy et (sp + 1) ho uw mo cs en (aa p1.toNatClampNeg) (xx p1.toNatClampNeg) (yy p1.toNatClampNeg) p0 p2 with | (r_15, rf_15, ma_15, pl_15, nu_15, de_15, to_15, si_15, ki_15, aa_15, xx_15, yy_15, et_15, sp_15, ho_15, uw_15, mo_15, cs_15, en_15) => (r_15, rf_15, ma_15, pl_15, nu_15, de_15, to_15, si_15, ki_15, aa_15, xx_15, yy_15, et_15, sp_15, ho_15, uw_15, mo_15, cs_15, en_15)) else (if (ki p1.toNatClampNeg) = 8 then (match f_X1_doBoth rc rf ma pl nu de to si ki aa xx yy et (sp + 1) ho uw mo cs en (xx p1.toNatClampNeg) (yy p1.toNatClampNeg) p0 p2 with | (r_17, rf_17, ma_17, pl_17, nu_17, de_17, to_17, si_17, ki_17, aa_17, xx_17, yy_17, et_17, sp_17, ho_17, uw_17, mo_17, cs_17, en_17) => (r_17, rf_17, ma_17, pl_17, nu_17, de_17, to_17, si_17, ki_17, aa_17, xx_17, yy_17, et_17, sp_17, ho_17, uw_17, mo_17, cs_17, en_17)) else (if (ki p1.toNatClampNeg) = 9 then (match f_X1_doCall rc rf ma pl nu de to si ki aa xx yy et (sp + 1) ho uw mo cs en (xx p1.toNatClampNeg) p0 with | (r_19, rf_19, ma_19, pl_19, nu_19, de_19, to_19, si_19, ki_19, aa_19, xx_19, yy_19, et_19, sp_19, ho_19, uw_19, mo_19, cs_19, en_19) => (r_19, rf_19, ma_19, pl_19, nu_19, de_19, to_19, si_19, ki_19, aa_19, xx_19, yy_19, et_19, sp_19, ho_19, uw_19, mo_19, cs_19, en_19)) else (if (ki p1.toNatClampNeg) = 10 then (match f_X1_doAdd rf ma pl nu de to si ki aa xx yy et (sp + 1) ho uw mo cs en (aa p1.toNatClampNeg) (xx p1.toNatClampNeg) with | (r_21, rf_21, ma_21, pl_21, nu_21, de_21, to_21, si_21, ki_21, aa_21, xx_21, yy_21, et_21, sp_21, ho_21, uw_21, mo_21, cs_21, en_21) => (r_21, rf_21, ma_21, pl_21, nu_21, de_21, to_21, si_21, ki_21, aa_21, xx_21, yy_21, et_21, sp_21, ho_21, uw_21, mo_21, cs_21, en_21)) else (if (ki p1.toNatClampNeg) = 11 then (match f_X2_put ma pl nu de (aa p1.toNatClampNeg) (f_X2_thingIn ma pl nu de (xx p1.toNatClampNeg)) with | (ma_23, pl_23, nu_23, de_23) => (0, rf, ma_23, pl_23, nu_23, de_23, to, si, ki, aa, xx, yy, et, (sp + 1), ho, uw, mo, cs, en)) else (if (ki p1.toNatClampNeg) = 12 then (match f_X1_doNew rf ma pl nu de to si ki aa xx yy et (sp + 1) ho uw mo cs en (aa p1.toNatClampNeg) with | (r_25, rf_25, ma_25, pl_25, nu_25, de_25, to_25, si_25, ki_25, aa_25, xx_25, yy_25, et_25, sp_25, ho_25, uw_25, mo_25, cs_25, en_25) => (r_25, rf_25, ma_25, pl_25, nu_25, de_25, to_25, si_25, ki_25, aa_25, xx_25, yy_25, et_25, sp_25, ho_25, uw_25, mo_25, cs_25, en_25)) else (if (ki p1.toNatClampNeg) = 13 then (match f_X2_put ma pl nu de (aa p1.toNatClampNeg) (-1) with | (ma_27, pl_27, nu_27, de_27) => (0, rf, ma_27, pl_27, nu_27, de_27, to, si, ki, aa, xx, yy, et, (sp + 1), ho, uw, mo, cs, en)) else (if (ki p1.toNatClampNeg) = 14 then (match f_X1_doSweep rf ma pl nu de to si ki aa xx yy et (sp + 1) ho uw mo cs en (aa p1.toNatClampNeg) with | (rf_29, ma_29, pl_29, nu_29, de_29, to_29, si_29, ki_29, aa_29, xx_29, yy_29, et_29, sp_29, ho_29, uw_29, mo_29, cs_29, en_29) => (0, rf_29, ma_29, pl_29, nu_29, de_29, to_29, si_29, ki_29, aa_29, xx_29, yy_29, et_29, sp_29, ho_29, uw_29, mo_29, cs_29, en_29)) else (0, rf, ma, pl, nu, de, to, si, ki, aa, xx, yy, et, (sp + 1), ho, uw, mo, cs, en)))))))))))))))) else (5, rf, ma, pl, nu, de, to, si, ki, aa, xx, yy, et, sp, ho, uw, mo, cs, en))
def L_X1_doBlock_36 (rc : TRC) : Nat → Int32 → Int32 → Int32 → Int32 → Int32 → Int32 → Int32 → Int32 → (Nat → Int32) → (Nat → Int32) → (Nat → Int32) → Int32 → (Nat → Int32) → (Nat → Int32) → (Nat → Int32) → (Nat → Int32) → (Nat → Int32) → Int32 → Int32 → Int32 → Int32 → Int32 → Int32 → (Nat → Int32) → Int32 × Int32 × Int32 × (Nat → Int32) × (Nat → Int32) × (Nat → Int32) × Int32 × (Nat → Int32) × (Nat → Int32) × (Nat → Int32) × (Nat → Int32) × (Nat → Int32) × Int32 × Int32 × Int32 × Int32 × Int32 × Int32 × (Nat → Int32)
  | 0, v1, v2, v3, v4, v5, v6, rf_l, ma_l, pl_l, nu_l, de_l, to_l, si_l, ki_l, aa_l, xx_l, yy_l, et_l, sp_l, ho_l, uw_l, mo_l, cs_l, en_l => (0, rf_l, ma_l, pl_l, nu_l, de_l, to_l, si_l, ki_l, aa_l, xx_l, yy_l, et_l, sp_l, ho_l, uw_l, mo_l, cs_l, en_l)
  | n + 1, v1, v2, v3, v4, v5, v6, rf_l, ma_l, pl_l, nu_l, de_l, to_l, si_l, ki_l, aa_l, xx_l, yy_l, et_l, sp_l, ho_l, uw_l, mo_l, cs_l, en_l => (if v4 ≤ v6 then (v5, rf_l, ma_l, pl_l, nu_l, de_l, to_l, si_l, ki_l, aa_l, xx_l, yy_l, et_l, sp_l, ho_l, uw_l, mo_l, cs_l, en_l) else (if v5 = 0 then (match f_X1_doStep rc rf_l ma_l pl_l nu_l de_l to_l si_l ki_l aa_l xx_l yy_l et_l sp_l ho_l uw_l mo_l cs_l en_l v1 ((v1 * 12) + v6) v3 with | (r_5, rf_5, ma_5, pl_5, nu_5, de_5, to_5, si_5, ki_5, aa_5, xx_5, yy_5, et_5, sp_5, ho_5, uw_5, mo_5, cs_5, en_5) => (L_X1_doBlock_36 rc n v1 v2 v3 v4 r_5 (v6 + 1) rf_5 ma_5 pl_5 nu_5 de_5 to_5 si_5 ki_5 aa_5 xx_5 yy_5 et_5 sp_5 ho_5 uw_5 mo_5 cs_5 en_5)) else (v5, rf_l, ma_l, pl_l, nu_l, de_l, to_l, si_l, ki_l, aa_l, xx_l, yy_l, et_l, sp_l, ho_l, uw_l, mo_l, cs_l, en_l)))
def f_X1_doBlock (rc : TRC) (rf : Int32) (ma : Int32) (pl : Nat → Int32) (nu : Nat → Int32) (de : Nat → Int32) (to : Int32) (si : Nat → Int32) (ki : Nat → Int32) (aa : Nat → Int32) (xx : Nat → Int32) (yy : Nat → Int32) (et : Int32) (sp : Int32) (ho : Int32) (uw : Int32) (mo : Int32) (cs : Int32) (en : Nat → Int32) (p0 : Int32) (p1 : Int32) (p2 : Int32) : Int32 × Int32 × Int32 × (Nat → Int32) × (Nat → Int32) × (Nat → Int32) × Int32 × (Nat → Int32) × (Nat → Int32) × (Nat → Int32) × (Nat → Int32) × (Nat → Int32) × Int32 × Int32 × Int32 × Int32 × Int32 × Int32 × (Nat → Int32) := (if (f_X4_isBlock p0) = 0 then (0, rf, ma, pl, nu, de, to, si, ki, aa, xx, yy, et, sp, ho, uw, mo, cs, en) else (if p1 < p0 then (L_X1_doBlock_36 rc 13 p0 p1 p2 (if 12 < (si p0.toNatClampNeg) then 12 else (si p0.toNatClampNeg)) 0 0 rf ma pl nu de to si ki aa xx yy et sp ho uw mo cs en) else (0, rf, ma, pl, nu, de, to, si, ki, aa, xx, yy, et, sp, ho, uw, mo, cs, en)))
def blkC : Nat → TRC
  | 0 => fun rf ma pl nu de to si ki aa xx yy et sp ho uw mo cs en _ _ _ => (0, rf, ma, pl, nu, de, to, si, ki, aa, xx, yy, et, sp, ho, uw, mo, cs, en)
  | d + 1 => f_X1_doBlock (blkC d)
end
section
abbrev TRM : Type := Int32 → Int32 → Int32 → Int32 → Int32 → Int32 → Int32 → Int32 → Int32 → Int32 → Int32 → Int32 → Int32 → (Nat → Int32) → (Nat → Int32) → (Nat → Int32) → (Nat → Int32) → (Nat → Int32) → (Nat → Int32) → (Nat → Int32) → (Nat → Int32) → (Nat → Int32) → Int32 → Int32 × Int32 × Int32 × Int32 × Int32 × Int32 × Int32 × Int32 × Int32 × Int32 × Int32 × Int32 × Int32 × Int32 × (Nat → Int32) × (Nat → Int32) × (Nat → Int32) × (Nat → Int32) × (Nat → Int32) × (Nat → Int32) × (Nat → Int32) × (Nat → Int32) × (Nat → Int32)
def f_X5_add (th : Int32) (ma : Int32) (to : Int32) (rn : Int32) (rf : Int32) (et : Int32) (sp : Int32) (ho : Int32) (mo : Int32) (cs : Int32) (uw : Int32) (wh : Int32) (lo : Int32) (pl : Nat → Int32) (nu : Nat → Int32) (de : Nat → Int32) (si : Nat → Int32) (ki : Nat → Int32) (aa : Nat → Int32) (xx : Nat → Int32) (yy : Nat → Int32) (en : Nat → Int32) (p0 : Int32) (p1 : Int32) : Int32 × Int32 × Int32 × Int32 × Int32 × Int32 × Int32 × Int32 × Int32 × Int32 × Int32 × Int32 × Int32 × Int32 × (Nat → Int32) × (Nat → Int32) × (Nat → Int32) × (Nat → Int32) × (Nat → Int32) × (Nat → Int32) × (Nat → Int32) × (Nat → Int32) × (Nat → Int32) := (if p0 = (-1) then (match f_X5_throwing th ma to rn rf et sp ho mo cs uw wh lo pl nu de si ki aa xx yy en 12 with | (r_4, th_4, ma_4, to_4, rn_4, rf_4, et_4, sp_4, ho_4, mo_4, cs_4, uw_4, wh_4, lo_4, pl_4, nu_4, de_4, si_4, ki_4, aa_4, xx_4, yy_4, en_4) => (r_4, th_4, ma_4, to_4, rn_4, rf_4, et_4, sp_4, ho_4, mo_4, cs_4, uw_4, wh_4, lo_4, pl_4, nu_4, de_4, si_4, ki_4, aa_4, xx_4, yy_4, en_4)) else (if (de p0.toNatClampNeg) = 0 then (match f_X5_throwing th ma to rn rf et sp ho mo cs uw wh lo pl nu de si ki aa xx yy en 11 with | (r_3, th_3, ma_3, to_3, rn_3, rf_3, et_3, sp_3, ho_3, mo_3, cs_3, uw_3, wh_3, lo_3, pl_3, nu_3, de_3, si_3, ki_3, aa_3, xx_3, yy_3, en_3) => (r_3, th_3, ma_3, to_3, rn_3, rf_3, et_3, sp_3, ho_3, mo_3, cs_3, uw_3, wh_3, lo_3, pl_3, nu_3, de_3, si_3, ki_3, aa_3, xx_3, yy_3, en_3)) else (0, th, ma, to, rn, rf, et, sp, ho, mo, cs, uw, wh, lo, pl, (upd nu p0.toNatClampNeg ((nu p0.toNatClampNeg) + p1)), de, si, ki, aa, xx, yy, en)))
def L_X5_sweep_7 : Nat → Int32 → Int32 → Int32 → Int32 → Int32 → Int32 → Int32 → Int32 → Int32 → Int32 → Int32 → Int32 → Int32 → Int32 → Int32 → Int32 → Int32 → (Nat → Int32) → (Nat → Int32) → (Nat → Int32) → (Nat → Int32) → (Nat → Int32) → (Nat → Int32) → (Nat → Int32) → (Nat → Int32) → (Nat → Int32) → Int32 × Int32 × Int32 × Int32 × Int32 × Int32 × Int32 × Int32 × Int32 × Int32 × Int32 × Int32 × Int32 × Int32 × (Nat → Int32) × (Nat → Int32) × (Nat → Int32) × (Nat → Int32) × (Nat → Int32) × (Nat → Int32) × (Nat → Int32) × (Nat → Int32) × (Nat → Int32)
  | 0, v1, v2, v3, v4, th_l, ma_l, to_l, rn_l, rf_l, et_l, sp_l, ho_l, mo_l, cs_l, uw_l, wh_l, lo_l, pl_l, nu_l, de_l, si_l, ki_l, aa_l, xx_l, yy_l, en_l => (0, th_l, ma_l, to_l, rn_l, rf_l, et_l, sp_l, ho_l, mo_l, cs_l, uw_l, wh_l, lo_l, pl_l, nu_l, de_l, si_l, ki_l, aa_l, xx_l, yy_l, en_l)
  | n + 1, v1, v2, v3, v4, th_l, ma_l, to_l, rn_l, rf_l, et_l, sp_l, ho_l, mo_l, cs_l, uw_l, wh_l, lo_l, pl_l, nu_l, de_l, si_l, ki_l, aa_l, xx_l, yy_l, en_l => (if 6 ≤ v4 then (match f_X5_comes th_l ma_l to_l rn_l rf_l et_l sp_l ho_l mo_l cs_l uw_l wh_l lo_l pl_l nu_l de_l si_l ki_l aa_l xx_l yy_l en_l (10000 + v2) with | (th_2, ma_2, to_2, rn_2, rf_2, et_2, sp_2, ho_2, mo_2, cs_2, uw_2, wh_2, lo_2, pl_2, nu_2, de_2, si_2, ki_2, aa_2, xx_2, yy_2, en_2) => (0, th_2, ma_2, to_2, rn_2, rf_2, et_2, sp_2, ho_2, mo_2, cs_2, uw_2, wh_2, lo_2, pl_2, nu_2, de_2, si_2, ki_2, aa_2, xx_2, yy_2, en_2)) else (if v3 = 0 then (match f_X5_comes th_l ma_l to_l rn_l rf_l et_l sp_l ho_l mo_l cs_l uw_l wh_l lo_l pl_l nu_l de_l si_l ki_l aa_l xx_l yy_l en_l (10000 + v2) with | (th_4, ma_4, to_4, rn_4, rf_4, et_4, sp_4, ho_4, mo_4, cs_4, uw_4, wh_4, lo_4, pl_4, nu_4, de_4, si_4, ki_4, aa_4, xx_4, yy_4, en_4) => (0, th_4, ma_4, to_4, rn_4, rf_4, et_4, sp_4, ho_4, mo_4, cs_4, uw_4, wh_4, lo_4, pl_4, nu_4, de_4, si_4, ki_4, aa_4, xx_4, yy_4, en_4)) else (if (pl_l v4.toNatClampNeg) = (-1) then (L_X5_sweep_7 n v1 v2 v3 (v4 + 1) th_l ma_l to_l rn_l rf_l et_l sp_l ho_l mo_l cs_l uw_l wh_l lo_l pl_l nu_l de_l si_l ki_l aa_l xx_l yy_l en_l) else (match f_X5_begin th_l ma_l to_l rn_l rf_l et_l sp_l ho_l mo_l cs_l uw_l wh_l lo_l pl_l nu_l de_l si_l ki_l aa_l xx_l yy_l en_l (pl_l v4.toNatClampNeg) with | (th_6, ma_6, to_6, rn_6, rf_6, et_6, sp_6, ho_6, mo_6, cs_6, uw_6, wh_6, lo_6, pl_6, nu_6, de_6, si_6, ki_6, aa_6, xx_6, yy_6, en_6) => (if (nu_6 (pl_l v4.toNatClampNeg).toNatClampNeg) = v1 then (match f_X5_leave th_6 ma_6 to_6 rn_6 rf_6 et_6 sp_6 ho_6 mo_6 cs_6 uw_6 wh_6 lo_6 pl_6 nu_6 de_6 si_6 ki_6 aa_6 xx_6 yy_6 en_6 (pl_l v4.toNatClampNeg) 0 with | (th_8, ma_8, to_8, rn_8, rf_8, et_8, sp_8, ho_8, mo_8, cs_8, uw_8, wh_8, lo_8, pl_8, nu_8, de_8, si_8, ki_8, aa_8, xx_8, yy_8, en_8) => (L_X5_sweep_7 n v1 v2 v3 (v4 + 1) th_8 ma_8 to_8 rn_8 rf_8 et_8 sp_8 ho_8 mo_8 cs_8 uw_8 wh_8 lo_8 pl_8 nu_8 de_8 si_8 ki_8 aa_8 xx_8 yy_8 en_8)) else (if (nu_6 (pl_l v4.toNatClampNeg).toNatClampNeg) < 0 then (match f_X5_leave th_6 ma_6 to_6 rn_6 rf_6 et_6 sp_6 ho_6 mo_6 cs_6 uw_6 wh_6 lo_6 pl_6 nu_6 de_6 si_6 ki_6 aa_6 xx_6 yy_6 en_6 (pl_l v4.toNatClampNeg) 0 with | (th_10, ma_10, to_10, rn_10, rf_10, et_10, sp_10, ho_10, mo_10, cs_10, uw_10, wh_10, lo_10, pl_10, nu_10, de_10, si_10, ki_10, aa_10, xx_10, yy_10, en_10) => (L_X5_sweep_7 n v1 (v2 + (nu_6 (pl_l v4.toNatClampNeg).toNatClampNeg)) 0 (v4 + 1) th_10 ma_10 to_10 rn_10 rf_10 et_10 sp_10 ho_10 mo_10 cs_10 uw_10 wh_10 lo_10 pl_10 nu_10 de_10 si_10 ki_10 aa_10 xx_10 yy_10 en_10)) else (match f_X5_leave th_6 ma_6 to_6 rn_6 rf_6 et_6 sp_6 ho_6 mo_6 cs_6 uw_6 wh_6 lo_6 pl_6 nu_6 de_6 si_6 ki_6 aa_6 xx_6 yy_6 en_6 (pl_l v4.toNatClampNeg) 0 with | (th_11, ma_11, to_11, rn_11, rf_11, et_11, sp_11, ho_11, mo_11, cs_11, uw_11, wh_11, lo_11, pl_11, nu_11, de_11, si_11, ki_11, aa_11, xx_11, yy_11, en_11) => (L_X5_sweep_7 n v1 (v2 + (nu_6 (pl_l v4.toNatClampNeg).toNatClampNeg)) 1 (v4 + 1) th_11 ma_11 to_11 rn_11 rf_11 et_11 sp_11 ho_11 mo_11 cs_11 uw_11 wh_11 lo_11 pl_11 nu_11 de_11 si_11 ki_11 aa_11 xx_11 yy_11 en_11))))))))
def f_X5_sweep (th : Int32) (ma : Int32) (to : Int32) (rn : Int32) (rf : Int32) (et : Int32) (sp : Int32) (ho : Int32) (mo : Int32) (cs : Int32) (uw : Int32) (wh : Int32) (lo : Int32) (pl : Nat → Int32) (nu : Nat → Int32) (de : Nat → Int32) (si : Nat → Int32) (ki : Nat → Int32) (aa : Nat → Int32) (xx : Nat → Int32) (yy : Nat → Int32) (en : Nat → Int32) (p0 : Int32) : Int32 × Int32 × Int32 × Int32 × Int32 × Int32 × Int32 × Int32 × Int32 × Int32 × Int32 × Int32 × Int32 × Int32 × (Nat → Int32) × (Nat → Int32) × (Nat → Int32) × (Nat → Int32) × (Nat → Int32) × (Nat → Int32) × (Nat → Int32) × (Nat → Int32) × (Nat → Int32) := (L_X5_sweep_7 7 p0 0 1 0 th ma to rn rf et sp ho mo cs uw wh lo pl nu de si ki aa xx yy en)
def f_X5_call (rc : TRM) (th : Int32) (ma : Int32) (to : Int32) (rn : Int32) (rf : Int32) (et : Int32) (sp : Int32) (ho : Int32) (mo : Int32) (cs : Int32) (uw : Int32) (wh : Int32) (lo : Int32) (pl : Nat → Int32) (nu : Nat → Int32) (de : Nat → Int32) (si : Nat → Int32) (ki : Nat → Int32) (aa : Nat → Int32) (xx : Nat → Int32) (yy : Nat → Int32) (en : Nat → Int32) (p0 : Int32) : Int32 × Int32 × Int32 × Int32 × Int32 × Int32 × Int32 × Int32 × Int32 × Int32 × Int32 × Int32 × Int32 × Int32 × (Nat → Int32) × (Nat → Int32) × (Nat → Int32) × (Nat → Int32) × (Nat → Int32) × (Nat → Int32) × (Nat → Int32) × (Nat → Int32) × (Nat → Int32) := (match rc th ma to rn rf et sp ho mo cs uw wh 0 pl nu de si ki aa xx yy en p0 with | (r_1, th_1, ma_1, to_1, rn_1, rf_1, et_1, sp_1, ho_1, mo_1, cs_1, uw_1, wh_1, lo_1, pl_1, nu_1, de_1, si_1, ki_1, aa_1, xx_1, yy_1, en_1) => (if r_1 = 3 then (0, th_1, ma_1, to_1, rn_1, rf_1, et_1, sp_1, ho_1, mo_1, cs_1, uw_1, wh_1, lo, pl_1, nu_1, de_1, si_1, ki_1, aa_1, xx_1, yy_1, en_1) else (r_1, th_1, ma_1, to_1, rn_1, rf_1, et_1, sp_1, ho_1, mo_1, cs_1, uw_1, wh_1, lo, pl_1, nu_1, de_1, si_1, ki_1, aa_1, xx_1, yy_1, en_1)))
def f_X5_both (rc : TRM) (th : Int32) (ma : Int32) (to : Int32) (rn : Int32) (rf : Int32) (et : Int32) (sp : Int32) (ho : Int32) (mo : Int32) (cs : Int32) (uw : Int32) (wh : Int32) (lo : Int32) (pl : Nat → Int32) (nu : Nat → Int32) (de : Nat → Int32) (si : Nat → Int32) (ki : Nat → Int32) (aa : Nat → Int32) (xx : Nat → Int32) (yy : Nat → Int32) (en : Nat → Int32) (p0 : Int32) (p1 : Int32) : Int32 × Int32 × Int32 × Int32 × Int32 × Int32 × Int32 × Int32 × Int32 × Int32 × Int32 × Int32 × Int32 × Int32 × (Nat → Int32) × (Nat → Int32) × (Nat → Int32) × (Nat → Int32) × (Nat → Int32) × (Nat → Int32) × (Nat → Int32) × (Nat → Int32) × (Nat → Int32) := (match rc th ma to rn rf et sp ho mo cs uw wh lo pl nu de si ki aa xx yy en p0 with | (r_1, th_1, ma_1, to_1, rn_1, rf_1, et_1, sp_1, ho_1, mo_1, cs_1, uw_1, wh_1, lo_1, pl_1, nu_1, de_1, si_1, ki_1, aa_1, xx_1, yy_1, en_1) => (if r_1 = 5 then (r_1, th_1, ma_1, to_1, rn_1, rf_1, et_1, sp_1, ho_1, mo_1, cs_1, uw_1, wh_1, lo_1, pl_1, nu_1, de_1, si_1, ki_1, aa_1, xx_1, yy_1, en_1) else (match rc th_1 ma_1 to_1 rn_1 rf_1 et_1 sp_1 ho_1 mo_1 cs_1 uw_1 wh_1 lo_1 pl_1 nu_1 de_1 si_1 ki_1 aa_1 xx_1 yy_1 en_1 p1 with | (r_3, th_3, ma_3, to_3, rn_3, rf_3, et_3, sp_3, ho_3, mo_3, cs_3, uw_3, wh_3, lo_3, pl_3, nu_3, de_3, si_3, ki_3, aa_3, xx_3, yy_3, en_3) => (if r_3 = 0 then (r_1, th_3, ma_3, to_3, rn_3, rf_3, et_3, sp_3, ho_3, mo_3, cs_3, uw_3, wh_1, lo_3, pl_3, nu_3, de_3, si_3, ki_3, aa_3, xx_3, yy_3, en_3) else (r_3, th_3, ma_3, to_3, rn_3, rf_3, et_3, sp_3, ho_3, mo_3, cs_3, uw_3, wh_3, lo_3, pl_3, nu_3, de_3, si_3, ki_3, aa_3, xx_3, yy_3, en_3)))))
def f_X5_tried (rc : TRM) (th : Int32) (ma : Int32) (to : Int32) (rn : Int32) (rf : Int32) (et : Int32) (sp : Int32) (ho : Int32) (mo : Int32) (cs : Int32) (uw : Int32) (wh : Int32) (lo : Int32) (pl : Nat → Int32) (nu : Nat → Int32) (de : Nat → Int32) (si : Nat → Int32) (ki : Nat → Int32) (aa : Nat → Int32) (xx : Nat → Int32) (yy : Nat → Int32) (en : Nat → Int32) (p0 : Int32) (p1 : Int32) (p2 : Int32) : Int32 × Int32 × Int32 × Int32 × Int32 × Int32 × Int32 × Int32 × Int32 × Int32 × Int32 × Int32 × Int32 × Int32 × (Nat → Int32) × (Nat → Int32) × (Nat → Int32) × (Nat → Int32) × (Nat → Int32) × (Nat → Int32) × (Nat → Int32) × (Nat → Int32) × (Nat → Int32) := (match rc th ma to rn rf et sp ho mo cs uw wh lo pl nu de si ki aa xx yy en p1 with | (r_1, th_1, ma_1, to_1, rn_1, rf_1, et_1, sp_1, ho_1, mo_1, cs_1, uw_1, wh_1, lo_1, pl_1, nu_1, de_1, si_1, ki_1, aa_1, xx_1, yy_1, en_1) => (if r_1 = 4 then (if p0 = 0 then (match rc th_1 ma_1 to_1 rn_1 rf_1 et_1 sp_1 ho_1 mo_1 cs_1 uw_1 wh_1 lo pl_1 nu_1 de_1 si_1 ki_1 aa_1 xx_1 yy_1 en_1 p2 with | (r_4, th_4, ma_4, to_4, rn_4, rf_4, et_4, sp_4, ho_4, mo_4, cs_4, uw_4, wh_4, lo_4, pl_4, nu_4, de_4, si_4, ki_4, aa_4, xx_4, yy_4, en_4) => (r_4, th_4, ma_4, to_4, rn_4, rf_4, et_4, sp_4, ho_4, mo_4, cs_4, uw_4, wh_4, lo_4, pl_4, nu_4, de_4, si_4, ki_4, aa_4, xx_4, yy_4, en_4)) else (if p0 = wh_1 then (match rc th_1 ma_1 to_1 rn_1 rf_1 et_1 sp_1 ho_1 mo_1 cs_1 uw_1 wh_1 lo pl_1 nu_1 de_1 si_1 ki_1 aa_1 xx_1 yy_1 en_1 p2 with | (r_6, th_6, ma_6, to_6, rn_6, rf_6, et_6, sp_6, ho_6, mo_6, cs_6, uw_6, wh_6, lo_6, pl_6, nu_6, de_6, si_6, ki_6, aa_6, xx_6, yy_6, en_6) => (r_6, th_6, ma_6, to_6, rn_6, rf_6, et_6, sp_6, ho_6, mo_6, cs_6, uw_6, wh_6, lo_6, pl_6, nu_6, de_6, si_6, ki_6, aa_6, xx_6, yy_6, en_6)) else (r_1, th_1, ma_1, to_1, rn_1, rf_1, et_1, sp_1, ho_1, mo_1, cs_1, uw_1, wh_1, lo_1, pl_1, nu_1, de_1, si_1, ki_1, aa_1, xx_1, yy_1, en_1))) else (r_1, th_1, ma_1, to_1, rn_1, rf_1, et_1, sp_1, ho_1, mo_1, cs_1, uw_1, wh_1, lo_1, pl_1, nu_1, de_1, si_1, ki_1, aa_1, xx_1, yy_1, en_1)))
def L_X5_loop_15 (rc : TRM) : Nat → Int32 → Int32 → Int32 → Int32 → Int32 → Int32 → Int32 → Int32 → Int32 → Int32 → Int32 → Int32 → Int32 → Int32 → Int32 → Int32 → Int32 → (Nat → Int32) → (Nat → Int32) → (Nat → Int32) → (Nat → Int32) → (Nat → Int32) → (Nat → Int32) → (Nat → Int32) → (Nat → Int32) → (Nat → Int32) → Int32 × Int32 × Int32 × Int32 × Int32 × Int32 × Int32 × Int32 × Int32 × Int32 × Int32 × Int32 × Int32 × Int32 × (Nat → Int32) × (Nat → Int32) × (Nat → Int32) × (Nat → Int32) × (Nat → Int32) × (Nat → Int32) × (Nat → Int32) × (Nat → Int32) × (Nat → Int32)
  | 0, v1, v2, v3, v4, th_l, ma_l, to_l, rn_l, rf_l, et_l, sp_l, ho_l, mo_l, cs_l, uw_l, wh_l, lo_l, pl_l, nu_l, de_l, si_l, ki_l, aa_l, xx_l, yy_l, en_l => (0, th_l, ma_l, to_l, rn_l, rf_l, et_l, sp_l, ho_l, mo_l, cs_l, uw_l, wh_l, lo_l, pl_l, nu_l, de_l, si_l, ki_l, aa_l, xx_l, yy_l, en_l)
  | n + 1, v1, v2, v3, v4, th_l, ma_l, to_l, rn_l, rf_l, et_l, sp_l, ho_l, mo_l, cs_l, uw_l, wh_l, lo_l, pl_l, nu_l, de_l, si_l, ki_l, aa_l, xx_l, yy_l, en_l => (if v1 ≤ v4 then (if v3 = 1 then (0, th_l, ma_l, to_l, rn_l, rf_l, et_l, sp_l, ho_l, mo_l, cs_l, uw_l, wh_l, (lo_l - 1), pl_l, nu_l, de_l, si_l, ki_l, aa_l, xx_l, yy_l, en_l) else (v3, th_l, ma_l, to_l, rn_l, rf_l, et_l, sp_l, ho_l, mo_l, cs_l, uw_l, wh_l, (lo_l - 1), pl_l, nu_l, de_l, si_l, ki_l, aa_l, xx_l, yy_l, en_l)) else (if v3 = 0 then (match rc th_l ma_l to_l rn_l rf_l et_l sp_l ho_l mo_l cs_l uw_l wh_l lo_l pl_l nu_l de_l si_l ki_l aa_l xx_l yy_l en_l v2 with | (r_5, th_5, ma_5, to_5, rn_5, rf_5, et_5, sp_5, ho_5, mo_5, cs_5, uw_5, wh_5, lo_5, pl_5, nu_5, de_5, si_5, ki_5, aa_5, xx_5, yy_5, en_5) => (if r_5 = 2 then (L_X5_loop_15 rc n v1 v2 0 (v4 + 1) th_5 ma_5 to_5 rn_5 rf_5 et_5 sp_5 ho_5 mo_5 cs_5 uw_5 wh_5 lo_5 pl_5 nu_5 de_5 si_5 ki_5 aa_5 xx_5 yy_5 en_5) else (L_X5_loop_15 rc n v1 v2 r_5 (v4 + 1) th_5 ma_5 to_5 rn_5 rf_5 et_5 sp_5 ho_5 mo_5 cs_5 uw_5 wh_5 lo_5 pl_5 nu_5 de_5 si_5 ki_5 aa_5 xx_5 yy_5 en_5))) else (if v3 = 1 then (0, th_l, ma_l, to_l, rn_l, rf_l, et_l, sp_l, ho_l, mo_l, cs_l, uw_l, wh_l, (lo_l - 1), pl_l, nu_l, de_l, si_l, ki_l, aa_l, xx_l, yy_l, en_l) else (v3, th_l, ma_l, to_l, rn_l, rf_l, et_l, sp_l, ho_l, mo_l, cs_l, uw_l, wh_l, (lo_l - 1), pl_l, nu_l, de_l, si_l, ki_l, aa_l, xx_l, yy_l, en_l))))
def f_X5_loop (rc : TRM) (th : Int32) (ma : Int32) (to : Int32) (rn : Int32) (rf : Int32) (et : Int32) (sp : Int32) (ho : Int32) (mo : Int32) (cs : Int32) (uw : Int32) (wh : Int32) (lo : Int32) (pl : Nat → Int32) (nu : Nat → Int32) (de : Nat → Int32) (si : Nat → Int32) (ki : Nat → Int32) (aa : Nat → Int32) (xx : Nat → Int32) (yy : Nat → Int32) (en : Nat → Int32) (p0 : Int32) (p1 : Int32) : Int32 × Int32 × Int32 × Int32 × Int32 × Int32 × Int32 × Int32 × Int32 × Int32 × Int32 × Int32 × Int32 × Int32 × (Nat → Int32) × (Nat → Int32) × (Nat → Int32) × (Nat → Int32) × (Nat → Int32) × (Nat → Int32) × (Nat → Int32) × (Nat → Int32) × (Nat → Int32) := (L_X5_loop_15 rc 6 p0 p1 0 0 th ma to rn rf et sp ho mo cs uw wh (lo + 1) pl nu de si ki aa xx yy en)
def f_X5_hold (rc : TRM) (th : Int32) (ma : Int32) (to : Int32) (rn : Int32) (rf : Int32) (et : Int32) (sp : Int32) (ho : Int32) (mo : Int32) (cs : Int32) (uw : Int32) (wh : Int32) (lo : Int32) (pl : Nat → Int32) (nu : Nat → Int32) (de : Nat → Int32) (si : Nat → Int32) (ki : Nat → Int32) (aa : Nat → Int32) (xx : Nat → Int32) (yy : Nat → Int32) (en : Nat → Int32) (p0 : Int32) (p1 : Int32) : Int32 × Int32 × Int32 × Int32 × Int32 × Int32 × Int32 × Int32 × Int32 × Int32 × Int32 × Int32 × Int32 × Int32 × (Nat → Int32) × (Nat → Int32) × (Nat → Int32) × (Nat → Int32) × (Nat → Int32) × (Nat → Int32) × (Nat → Int32) × (Nat → Int32) × (Nat → Int32) := (match f_X5_begin th ma to rn rf et sp ho mo cs uw wh lo pl nu de si ki aa xx yy en p0 with | (th_1, ma_1, to_1, rn_1, rf_1, et_1, sp_1, ho_1, mo_1, cs_1, uw_1, wh_1, lo_1, pl_1, nu_1, de_1, si_1, ki_1, aa_1, xx_1, yy_1, en_1) => (match rc th_1 ma_1 to_1 rn_1 rf_1 et_1 sp_1 ho_1 mo_1 cs_1 uw_1 wh_1 lo_1 pl_1 nu_1 de_1 si_1 ki_1 aa_1 xx_1 yy_1 en_1 p1 with | (r_2, th_2, ma_2, to_2, rn_2, rf_2, et_2, sp_2, ho_2, mo_2, cs_2, uw_2, wh_2, lo_2, pl_2, nu_2, de_2, si_2, ki_2, aa_2, xx_2, yy_2, en_2) => (match f_X5_leave th_2 ma_2 to_2 rn_2 rf_2 et_2 sp_2 ho_2 mo_2 cs_2 uw_2 wh_2 lo_2 pl_2 nu_2 de_2 si_2 ki_2 aa_2 xx_2 yy_2 en_2 p0 r_2 with | (th_3, ma_3, to_3, rn_3, rf_3, et_3, sp_3, ho_3, mo_3, cs_3, uw_3, wh_3, lo_3, pl_3, nu_3, de_3, si_3, ki_3, aa_3, xx_3, yy_3, en_3) => (r_2, th_3, ma_3, to_3, rn_3, rf_3, et_3, sp_3, ho_3, mo_3, cs_3, uw_3, wh_3, lo_3, pl_3, nu_3, de_3, si_3, ki_3, aa_3, xx_3, yy_3, en_3))))
def f_X5_doStep (rc : TRM) (th : Int32) (ma : Int32) (to : Int32) (rn : Int32) (rf : Int32) (et : Int32) (sp : Int32) (ho : Int32) (mo : Int32) (cs : Int32) (uw : Int32) (wh : Int32) (lo : Int32) (pl : Nat → Int32) (nu : Nat → Int32) (de : Nat → Int32) (si : Nat → Int32) (ki : Nat → Int32) (aa : Nat → Int32) (xx : Nat → Int32) (yy : Nat → Int32) (en : Nat → Int32) (p0 : Int32) : Int32 × Int32 × Int32 × Int32 × Int32 × Int32 × Int32 × Int32 × Int32 × Int32 × Int32 × Int32 × Int32 × Int32 × (Nat → Int32) × (Nat → Int32) × (Nat → Int32) × (Nat → Int32) × (Nat → Int32) × (Nat → Int32) × (Nat → Int32) × (Nat → Int32) × (Nat → Int32) := (if (ki p0.toNatClampNeg) = 0 then (match f_X5_comes th ma to rn rf et sp ho mo cs uw wh lo pl nu de si ki aa xx yy en (10000 + (aa p0.toNatClampNeg)) with | (th_2, ma_2, to_2, rn_2, rf_2, et_2, sp_2, ho_2, mo_2, cs_2, uw_2, wh_2, lo_2, pl_2, nu_2, de_2, si_2, ki_2, aa_2, xx_2, yy_2, en_2) => (0, th_2, ma_2, to_2, rn_2, rf_2, et_2, sp_2, ho_2, mo_2, cs_2, uw_2, wh_2, lo_2, pl_2, nu_2, de_2, si_2, ki_2, aa_2, xx_2, yy_2, en_2)) else (if (ki p0.toNatClampNeg) = 1 then (if (pl (aa p0.toNatClampNeg).toNatClampNeg) = (-1) then (match f_X5_throwing th ma to rn (rf + 1) et sp ho mo cs uw wh lo pl nu de si ki aa xx yy en 12 with | (r_6, th_6, ma_6, to_6, rn_6, rf_6, et_6, sp_6, ho_6, mo_6, cs_6, uw_6, wh_6, lo_6, pl_6, nu_6, de_6, si_6, ki_6, aa_6, xx_6, yy_6, en_6) => (r_6, th_6, ma_6, to_6, rn_6, rf_6, et_6, sp_6, ho_6, mo_6, cs_6, uw_6, wh_6, lo_6, pl_6, nu_6, de_6, si_6, ki_6, aa_6, xx_6, yy_6, en_6)) else (match f_X5_hold rc th ma to rn rf et sp ho mo cs uw wh lo pl nu de si ki aa xx yy en (pl (aa p0.toNatClampNeg).toNatClampNeg) (xx p0.toNatClampNeg) with | (r_5, th_5, ma_5, to_5, rn_5, rf_5, et_5, sp_5, ho_5, mo_5, cs_5, uw_5, wh_5, lo_5, pl_5, nu_5, de_5, si_5, ki_5, aa_5, xx_5, yy_5, en_5) => (r_5, th_5, ma_5, to_5, rn_5, rf_5, et_5, sp_5, ho_5, mo_5, cs_5, uw_5, wh_5, lo_5, pl_5, nu_5, de_5, si_5, ki_5, aa_5, xx_5, yy_5, en_5))) else (if (ki p0.toNatClampNeg) = 2 then (match f_X5_loop rc th ma to rn rf et sp ho mo cs uw wh lo pl nu de si ki aa xx yy en (aa p0.toNatClampNeg) (xx p0.toNatClampNeg) with | (r_8, th_8, ma_8, to_8, rn_8, rf_8, et_8, sp_8, ho_8, mo_8, cs_8, uw_8, wh_8, lo_8, pl_8, nu_8, de_8, si_8, ki_8, aa_8, xx_8, yy_8, en_8) => (r_8, th_8, ma_8, to_8, rn_8, rf_8, et_8, sp_8, ho_8, mo_8, cs_8, uw_8, wh_8, lo_8, pl_8, nu_8, de_8, si_8, ki_8, aa_8, xx_8, yy_8, en_8)) else (if (ki p0.toNatClampNeg) = 3 then (if lo ≤ 0 then (3, th, ma, to, rn, rf, et, sp, ho, mo, cs, uw, wh, lo, pl, nu, de, si, ki, aa, xx, yy, en) else (1, th, ma, to, rn, rf, et, sp, ho, mo, cs, uw, wh, lo, pl, nu, de, si, ki, aa, xx, yy, en)) else (if (ki p0.toNatClampNeg) = 4 then (if lo ≤ 0 then (3, th, ma, to, rn, rf, et, sp, ho, mo, cs, uw, wh, lo, pl, nu, de, si, ki, aa, xx, yy, en) else (2, th, ma, to, rn, rf, et, sp, ho, mo, cs, uw, wh, lo, pl, nu, de, si, ki, aa, xx, yy, en)) else (if (ki p0.toNatClampNeg) = 5 then (3, th, ma, to, rn, rf, et, sp, ho, mo, cs, uw, wh, lo, pl, nu, de, si, ki, aa, xx, yy, en) else (if (ki p0.toNatClampNeg) = 6 then (match f_X5_throwing th ma to rn rf et sp ho mo cs uw wh lo pl nu de si ki aa xx yy en (aa p0.toNatClampNeg) with | (r_15, th_15, ma_15, to_15, rn_15, rf_15, et_15, sp_15, ho_15, mo_15, cs_15, uw_15, wh_15, lo_15, pl_15, nu_15, de_15, si_15, ki_15, aa_15, xx_15, yy_15, en_15) => (r_15, th_15, ma_15, to_15, rn_15, rf_15, et_15, sp_15, ho_15, mo_15, cs_15, uw_15, wh_15, lo_15, pl_15, nu_15, de_15, si_15, ki_15, aa_15, xx_15, yy_15, en_15)) else (if (ki p0.toNatClampNeg) = 7 then (match f_X5_tried rc th ma to rn rf et sp ho mo cs uw wh lo pl nu de si ki aa xx yy en (aa p0.toNatClampNeg) (xx p0.toNatClampNeg) (yy p0.toNatClampNeg) with | (r_17, th_17, ma_17, to_17, rn_17, rf_17, et_17, sp_17, ho_17, mo_17, cs_17, uw_17, wh_17, lo_17, pl_17, nu_17, de_17, si_17, ki_17, aa_17, xx_17, yy_17, en_17) => (r_17, th_17, ma_17, to_17, rn_17, rf_17, et_17, sp_17, ho_17, mo_17, cs_17, uw_17, wh_17, lo_17, pl_17, nu_17, de_17, si_17, ki_17, aa_17, xx_17, yy_17, en_17)) else (if (ki p0.toNatClampNeg) = 8 then (match f_X5_both rc th ma to rn rf et sp ho mo cs uw wh lo pl nu de si ki aa xx yy en (xx p0.toNatClampNeg) (yy p0.toNatClampNeg) with | (r_19, th_19, ma_19, to_19, rn_19, rf_19, et_19, sp_19, ho_19, mo_19, cs_19, uw_19, wh_19, lo_19, pl_19, nu_19, de_19, si_19, ki_19, aa_19, xx_19, yy_19, en_19) => (r_19, th_19, ma_19, to_19, rn_19, rf_19, et_19, sp_19, ho_19, mo_19, cs_19, uw_19, wh_19, lo_19, pl_19, nu_19, de_19, si_19, ki_19, aa_19, xx_19, yy_19, en_19)) else (if (ki p0.toNatClampNeg) = 9 then (match f_X5_call rc th ma to rn rf et sp ho mo cs uw wh lo pl nu de si ki aa xx yy en (xx p0.toNatClampNeg) with | (r_21, th_21, ma_21, to_21, rn_21, rf_21, et_21, sp_21, ho_21, mo_21, cs_21, uw_21, wh_21, lo_21, pl_21, nu_21, de_21, si_21, ki_21, aa_21, xx_21, yy_21, en_21) => (r_21, th_21, ma_21, to_21, rn_21, rf_21, et_21, sp_21, ho_21, mo_21, cs_21, uw_21, wh_21, lo_21, pl_21, nu_21, de_21, si_21, ki_21, aa_21, xx_21, yy_21, en_21)) else (if (ki p0.toNatClampNeg) = 10 then (match f_X5_add th ma to rn rf et sp ho mo cs uw wh lo pl nu de si ki aa xx yy en (pl (xx p0.toNatClampNeg).toNatClampNeg) (aa p0.toNatClampNeg) with | (r_23, th_23, ma_23, to_23, rn_23, rf_23, et_23, sp_23, ho_23, mo_23, cs_23, uw_23, wh_23, lo_23, pl_23, nu_23, de_23, si_23, ki_23, aa_23, xx_23, yy_23, en_23) => (r_23, th_23, ma_23, to_23, rn_23, rf_23, et_23, sp_23, ho_23, mo_23, cs_23, uw_23, wh_23, lo_23, pl_23, nu_23, de_23, si_23, ki_23, aa_23, xx_23, yy_23, en_23)) else (if (ki p0.toNatClampNeg) = 11 then (0, th, ma, to, rn, rf, et, sp, ho, mo, cs, uw, wh, lo, (upd pl (aa p0.toNatClampNeg).toNatClampNeg (pl (xx p0.toNatClampNeg).toNatClampNeg)), nu, de, si, ki, aa, xx, yy, en) else (if (ki p0.toNatClampNeg) = 12 then (if ma = 60 then (match f_X5_throwing th ma to rn rf et sp ho mo cs uw wh lo pl nu de si ki aa xx yy en 13 with | (r_28, th_28, ma_28, to_28, rn_28, rf_28, et_28, sp_28, ho_28, mo_28, cs_28, uw_28, wh_28, lo_28, pl_28, nu_28, de_28, si_28, ki_28, aa_28, xx_28, yy_28, en_28) => (r_28, th_28, ma_28, to_28, rn_28, rf_28, et_28, sp_28, ho_28, mo_28, cs_28, uw_28, wh_28, lo_28, pl_28, nu_28, de_28, si_28, ki_28, aa_28, xx_28, yy_28, en_28)) else (match f_X5_made th ma to rn rf et sp ho mo cs uw wh lo pl nu de si ki aa xx yy en (aa p0.toNatClampNeg) with | (r_27, th_27, ma_27, to_27, rn_27, rf_27, et_27, sp_27, ho_27, mo_27, cs_27, uw_27, wh_27, lo_27, pl_27, nu_27, de_27, si_27, ki_27, aa_27, xx_27, yy_27, en_27) => (0, th_27, ma_27, to_27, rn_27, rf_27, et_27, sp_27, ho_27, mo_27, cs_27, uw_27, wh_27, lo_27, pl_27, nu_27, de_27, si_27, ki_27, aa_27, xx_27, yy_27, en_27))) else (if (ki p0.toNatClampNeg) = 13 then (0, th, ma, to, rn, rf, et, sp, ho, mo, cs, uw, wh, lo, (upd pl (aa p0.toNatClampNeg).toNatClampNeg (-1)), nu, de, si, ki, aa, xx, yy, en) else (match f_X5_sweep th ma to rn rf et sp ho mo cs uw wh lo pl nu de si ki aa xx yy en (aa p0.toNatClampNeg) with | (r_30, th_30, ma_30, to_30, rn_30, rf_30, et_30, sp_30, ho_30, mo_30, cs_30, uw_30, wh_30, lo_30, pl_30, nu_30, de_30, si_30, ki_30, aa_30, xx_30, yy_30, en_30) => (r_30, th_30, ma_30, to_30, rn_30, rf_30, et_30, sp_30, ho_30, mo_30, cs_30, uw_30, wh_30, lo_30, pl_30, nu_30, de_30, si_30, ki_30, aa_30, xx_30, yy_30, en_30))))))))))))))))
def L_X5_block_4 (rc : TRM) : Nat → Int32 → Int32 → Int32 → Int32 → Int32 → Int32 → Int32 → Int32 → Int32 → Int32 → Int32 → Int32 → Int32 → Int32 → Int32 → Int32 → (Nat → Int32) → (Nat → Int32) → (Nat → Int32) → (Nat → Int32) → (Nat → Int32) → (Nat → Int32) → (Nat → Int32) → (Nat → Int32) → (Nat → Int32) → Int32 × Int32 × Int32 × Int32 × Int32 × Int32 × Int32 × Int32 × Int32 × Int32 × Int32 × Int32 × Int32 × Int32 × (Nat → Int32) × (Nat → Int32) × (Nat → Int32) × (Nat → Int32) × (Nat → Int32) × (Nat → Int32) × (Nat → Int32) × (Nat → Int32) × (Nat → Int32)
  | 0, v1, v2, v3, th_l, ma_l, to_l, rn_l, rf_l, et_l, sp_l, ho_l, mo_l, cs_l, uw_l, wh_l, lo_l, pl_l, nu_l, de_l, si_l, ki_l, aa_l, xx_l, yy_l, en_l => (0, th_l, ma_l, to_l, rn_l, rf_l, et_l, sp_l, ho_l, mo_l, cs_l, uw_l, wh_l, lo_l, pl_l, nu_l, de_l, si_l, ki_l, aa_l, xx_l, yy_l, en_l)
  | n + 1, v1, v2, v3, th_l, ma_l, to_l, rn_l, rf_l, et_l, sp_l, ho_l, mo_l, cs_l, uw_l, wh_l, lo_l, pl_l, nu_l, de_l, si_l, ki_l, aa_l, xx_l, yy_l, en_l => (if (si_l v1.toNatClampNeg) ≤ v3 then (v2, th_l, ma_l, to_l, rn_l, rf_l, et_l, sp_l, ho_l, mo_l, cs_l, uw_l, wh_l, lo_l, pl_l, nu_l, de_l, si_l, ki_l, aa_l, xx_l, yy_l, en_l) else (if v2 = 0 then (if sp_l = 300 then (5, th_l, ma_l, to_l, rn_l, rf_l, et_l, sp_l, ho_l, mo_l, cs_l, uw_l, wh_l, lo_l, pl_l, nu_l, de_l, si_l, ki_l, aa_l, xx_l, yy_l, en_l) else (match f_X5_doStep rc th_l ma_l to_l rn_l rf_l et_l (sp_l + 1) ho_l mo_l cs_l uw_l wh_l lo_l pl_l nu_l de_l si_l ki_l aa_l xx_l yy_l en_l ((12 * v1) + v3) with | (r_4, th_4, ma_4, to_4, rn_4, rf_4, et_4, sp_4, ho_4, mo_4, cs_4, uw_4, wh_4, lo_4, pl_4, nu_4, de_4, si_4, ki_4, aa_4, xx_4, yy_4, en_4) => (L_X5_block_4 rc n v1 r_4 (v3 + 1) th_4 ma_4 to_4 rn_4 rf_4 et_4 sp_4 ho_4 mo_4 cs_4 uw_4 wh_4 lo_4 pl_4 nu_4 de_4 si_4 ki_4 aa_4 xx_4 yy_4 en_4))) else (v2, th_l, ma_l, to_l, rn_l, rf_l, et_l, sp_l, ho_l, mo_l, cs_l, uw_l, wh_l, lo_l, pl_l, nu_l, de_l, si_l, ki_l, aa_l, xx_l, yy_l, en_l)))
def f_X5_block (rc : TRM) (th : Int32) (ma : Int32) (to : Int32) (rn : Int32) (rf : Int32) (et : Int32) (sp : Int32) (ho : Int32) (mo : Int32) (cs : Int32) (uw : Int32) (wh : Int32) (lo : Int32) (pl : Nat → Int32) (nu : Nat → Int32) (de : Nat → Int32) (si : Nat → Int32) (ki : Nat → Int32) (aa : Nat → Int32) (xx : Nat → Int32) (yy : Nat → Int32) (en : Nat → Int32) (p0 : Int32) : Int32 × Int32 × Int32 × Int32 × Int32 × Int32 × Int32 × Int32 × Int32 × Int32 × Int32 × Int32 × Int32 × Int32 × (Nat → Int32) × (Nat → Int32) × (Nat → Int32) × (Nat → Int32) × (Nat → Int32) × (Nat → Int32) × (Nat → Int32) × (Nat → Int32) × (Nat → Int32) := (L_X5_block_4 rc 13 p0 0 0 th ma to rn rf et sp ho mo cs uw wh lo pl nu de si ki aa xx yy en)
def blkM : Nat → TRM
  | 0 => fun th ma to rn rf et sp ho mo cs uw wh lo pl nu de si ki aa xx yy en _ => (0, th, ma, to, rn, rf, et, sp, ho, mo, cs, uw, wh, lo, pl, nu, de, si, ki, aa, xx, yy, en)
  | d + 1 => f_X5_block (blkM d)
end
section
abbrev SMo : Type := Int32 × Int32 × Int32 × Int32 × Int32 × Int32 × Int32 × Int32 × Int32 × Int32 × Int32 × Int32 × Int32 × (Nat → Int32) × (Nat → Int32) × (Nat → Int32) × (Nat → Int32) × (Nat → Int32) × (Nat → Int32) × (Nat → Int32) × (Nat → Int32) × (Nat → Int32)
abbrev SCo : Type := Int32 × Int32 × (Nat → Int32) × (Nat → Int32) × (Nat → Int32) × Int32 × (Nat → Int32) × (Nat → Int32) × (Nat → Int32) × (Nat → Int32) × (Nat → Int32) × Int32 × Int32 × Int32 × Int32 × Int32 × Int32 × (Nat → Int32)
def oc (how wh : Int32) : Int32 := if how = 4 then 100 + wh else how
def ent (et : Int32) (en : Nat → Int32) (v : Int32) : Nat → Int32 := if 250 ≤ et then en else upd en et.toNatClampNeg v
def mx (mo uw : Int32) : Int32 := if mo < uw then uw else mo
theorem oc0 (w : Int32) : oc 0 w = 0 := if_neg (by decide)
theorem oc1 (w : Int32) : oc 1 w = 1 := if_neg (by decide)
theorem oc2 (w : Int32) : oc 2 w = 2 := if_neg (by decide)
theorem oc3 (w : Int32) : oc 3 w = 3 := if_neg (by decide)
theorem oc5 (w : Int32) : oc 5 w = 5 := if_neg (by decide)
theorem oc4 (w : Int32) : oc 4 w = 100 + w := if_pos rfl
theorem c100 : (100 : Int32).toInt = 100 := by decide
theorem c4 : (4 : Int32).toInt = 4 := by decide
theorem t100 {w : Int32} (h : 0 ≤ w.toInt ∧ w.toInt ≤ 13) : (100 + w).toInt = 100 + w.toInt := by
  rw [ti_add] <;> rw [c100] <;> omega
theorem oc_eq {how wh k : Int32} (h4 : how = 4 → 1 ≤ wh.toInt ∧ wh.toInt ≤ 13) (hk : k.toInt ≤ 100) (hk4 : ¬ k = 4) : oc how wh = k ↔ how = k := by
  by_cases q : how = 4
  · have h := h4 q
    rw [q, oc4]
    constructor
    · intro e
      have := congrArg Int32.toInt e
      rw [t100 (by omega)] at this
      omega
    · intro e
      exact absurd e.symm hk4
  · rw [show oc how wh = how from if_neg q]
theorem oc_thr {how wh : Int32} (hw : 0 ≤ how.toInt ∧ how.toInt ≤ 5) (h4 : how = 4 → 1 ≤ wh.toInt ∧ wh.toInt ≤ 13) : f_X4_isThrown (oc how wh) = 0 ↔ ¬ how = 4 := by
  unfold f_X4_isThrown
  by_cases q : how = 4
  · have h := h4 q
    rw [q, oc4, if_neg (by rw [Int32.le_iff_toInt_le, t100 (by omega), c100]; omega)]
    exact ⟨fun e => absurd e (by decide), fun e => absurd rfl e⟩
  · rw [show oc how wh = how from if_neg q, if_pos (by rw [Int32.le_iff_toInt_le, c100]; omega)]
    exact ⟨fun _ => q, fun _ => rfl⟩
theorem upd_id (f : Nat → Int32) (k : Nat) : upd f k (f k) = f := by
  funext j
  by_cases h : j = k
  · rw [h, pk_us]
  · rw [pk_un h]
theorem upd_at (f : Nat → Int32) (k : Nat) (x : Int32) : upd f k x k = x := pk_us
theorem upd_uu (f : Nat → Int32) (k : Nat) (x y : Int32) : upd (upd f k x) k y = upd f k y := by
  funext j
  by_cases h : j = k
  · rw [h, pk_us, pk_us]
  · rw [pk_un h, pk_un h, pk_un h]
theorem add1sub1 (x : Int32) : x + 1 - 1 = x := Int32.add_sub_cancel x 1
theorem addm1 (x : Int32) : x + (-1) = x - 1 := by rw [Int32.sub_eq_add_neg]
theorem addz (x : Int32) : x + 0 = x := Int32.add_zero x
theorem upd_back (f : Nat → Int32) (k : Nat) : upd (upd f k (f k + 1)) k ((upd f k (f k + 1)) k - 1) = f := by
  rw [upd_at, upd_uu, add1sub1, upd_id]
def REL (δ : Nat) (th to rn lo ma : Int32) (de si ki aa xx yy : Nat → Int32) (M : Int32 × SMo) (C : Int32 × SCo) : Prop :=
  ∃ (how' ma' rf' et' sp' ho' mo' cs' uw' wh' : Int32) (pl' nu' en' : Nat → Int32), M = (how', th, ma', to, rn, rf', et', sp', ho', mo', cs', uw', wh', lo, pl', nu', de, si, ki, aa, xx, yy, en') ∧ C = (oc how' wh', rf', ma', pl', nu', de, to, si, ki, aa, xx, yy, et', sp', ho', uw', mo', cs', en') ∧ (0 ≤ how'.toInt ∧ how'.toInt ≤ 5) ∧ (how' = 4 → 1 ≤ wh'.toInt ∧ wh'.toInt ≤ 13) ∧ ma.toInt ≤ ma'.toInt ∧ J δ (ma') (et') (sp') (pl') (nu') de si ki aa xx yy
def RR (d : Nat) (rm : TRM) (rc : TRC) : Prop := ∀ (δ : Nat) (th : Int32) (ma : Int32) (to : Int32) (rn : Int32) (rf : Int32) (et : Int32) (sp : Int32) (ho : Int32) (mo : Int32) (cs : Int32) (uw : Int32) (wh : Int32) (lo : Int32) (pl : Nat → Int32) (nu : Nat → Int32) (de : Nat → Int32) (si : Nat → Int32) (ki : Nat → Int32) (aa : Nat → Int32) (xx : Nat → Int32) (yy : Nat → Int32) (en : Nat → Int32) (b ab il : Int32), HB4 d b ab → J δ ma et sp pl nu de si ki aa xx yy → LO d lo → (il = 0 ↔ lo ≤ 0) → REL δ th to rn lo ma de si ki aa xx yy (rm th ma to rn rf et sp ho mo cs uw wh lo pl nu de si ki aa xx yy en b) (rc rf ma pl nu de to si ki aa xx yy et sp ho uw mo cs en b ab il)
theorem REL.mono {δ δ' : Nat} {th to rn lo ma ma1 : Int32} {de si ki aa xx yy : Nat → Int32} {M : Int32 × SMo} {C : Int32 × SCo} (h : REL δ' th to rn lo ma1 de si ki aa xx yy M C) (hm : ma.toInt ≤ ma1.toInt) (hd : δ ≤ δ') : REL δ th to rn lo ma de si ki aa xx yy M C := by
  obtain ⟨how1, ma1, rf1, et1, sp1, ho1, mo1, cs1, uw1, wh1, pl1, nu1, en1, hM1, hC1, hw1, h41, hm1, hJ1⟩ := h
  exact ⟨how1, ma1, rf1, et1, sp1, ho1, mo1, cs1, uw1, wh1, pl1, nu1, en1, hM1, hC1, hw1, h41, by omega, hJ1.weak hd⟩
section SIM
variable {d δ : Nat} {rm : TRM} {rc : TRC} {th ma to rn rf et sp ho mo cs uw wh lo : Int32} {pl nu de si ki aa xx yy en : Nat → Int32}
theorem x_comes (v : Int32) : f_X5_comes th ma to rn rf et sp ho mo cs uw wh lo pl nu de si ki aa xx yy en v = (th, ma, to, rn, rf, et + 1, sp, ho, mo, cs, uw, wh, lo, pl, nu, de, si, ki, aa, xx, yy, ent et en v) := by
  unfold f_X5_comes ent
  split <;> rfl
theorem x_enter (v : Int32) : f_X3_enter et sp ho uw mo cs en v = (et + 1, sp, ho, uw, mo, cs, ent et en v) := by
  unfold f_X3_enter ent
  split <;> rfl
theorem x_mark (v : Int32) : f_X3_enterMark et sp ho uw mo cs en v = (et + 1, sp, ho, uw, mo, cs, ent et en (10000 + v)) := by
  simp only [f_X3_enterMark, x_enter]
theorem x_begin (t : Int32) : f_X5_begin th ma to rn rf et sp ho mo cs uw wh lo pl nu de si ki aa xx yy en t = (th, ma, to, rn, rf, et + 1, sp, ho + 1, mx mo (uw + 1), cs, uw + 1, wh, lo, pl, nu, upd de t.toNatClampNeg (de t.toNatClampNeg + 1), si, ki, aa, xx, yy, ent et en (1000 + t)) := by
  unfold f_X5_begin
  by_cases h : uw + 1 ≤ mo
  · have h2 : mx mo (uw + 1) = mo := if_neg (by rw [Int32.lt_iff_toInt_lt]; rw [Int32.le_iff_toInt_le] at h; omega)
    simp only [if_pos h, x_comes, h2]
  · have h2 : mx mo (uw + 1) = uw + 1 := if_pos (by rw [Int32.lt_iff_toInt_lt]; rw [Int32.le_iff_toInt_le] at h; omega)
    simp only [if_neg h, x_comes, h2]
theorem is_thing {t : Int32} (h : 0 ≤ t.toInt ∧ t.toInt < ma.toInt) : f_X2_isThing ma pl nu de t = 1 := by
  unfold f_X2_isThing
  rw [if_neg (by rw [Int32.lt_iff_toInt_lt, c0]; omega), if_neg (by rw [Int32.le_iff_toInt_le]; omega)]
theorem is_thing0 {t : Int32} (h : 0 ≤ t.toInt ∧ t.toInt < ma.toInt) : ¬ f_X2_isThing ma pl nu de t = 0 := by
  rw [is_thing h]; decide
theorem is_place {x : Int32} (h : vp_in x 6) : ¬ f_X4_isPlace x = 0 := by
  rw [vp_in_iff] at h
  unfold f_X4_isPlace f_X4_isWithin
  rw [if_neg (by rw [Int32.lt_iff_toInt_lt, c0]; omega), if_neg (by rw [Int32.lt_iff_toInt_lt, c5]; omega)]
  decide
theorem x_thing {x : Int32} (h : vp_in x 6) : f_X2_thingIn ma pl nu de x = pl x.toNatClampNeg := by
  unfold f_X2_thingIn
  rw [if_neg (is_place h)]
theorem x_put {x v : Int32} (h : vp_in x 6) : f_X2_put ma pl nu de x v = (ma, upd pl x.toNatClampNeg v, nu, de) := by
  unfold f_X2_put
  rw [if_neg (is_place h)]
theorem x_cbegin {t : Int32} (h : 0 ≤ t.toInt ∧ t.toInt < ma.toInt) : f_X1_beginHold rf ma pl nu de to si ki aa xx yy et sp ho uw mo cs en t = (rf, ma, pl, nu, upd de t.toNatClampNeg (de t.toNatClampNeg + 1), to, si, ki, aa, xx, yy, et + 1, sp, ho + 1, uw + 1, mx mo (uw + 1), cs, ent et en (1000 + t)) := by
  simp only [f_X1_beginHold, f_X2_deepen, if_neg (is_thing0 h), f_X3_enterBegun, x_enter, mx]
theorem x_leave (t how : Int32) : f_X5_leave th ma to rn rf et sp ho mo cs uw wh lo pl nu de si ki aa xx yy en t how = (th, ma, to, rn, rf, et + 1, sp, ho, mo, if how < 4 then cs else cs + 1, uw - 1, wh, lo, pl, nu, upd de t.toNatClampNeg (de t.toNatClampNeg - 1), si, ki, aa, xx, yy, ent et en (2000 + 100 * how + t)) := by
  unfold f_X5_leave
  by_cases h : how < 4
  · simp only [if_pos h, x_comes, addz]
  · simp only [if_neg h, x_comes]
theorem x_cleave {t how : Int32} (h : 0 ≤ t.toInt ∧ t.toInt < ma.toInt) (hw : 0 ≤ how.toInt ∧ how.toInt ≤ 5) : f_X1_leaveHold rf ma pl nu de to si ki aa xx yy et sp ho uw mo cs en t how = (rf, ma, pl, nu, upd de t.toNatClampNeg (de t.toNatClampNeg - 1), to, si, ki, aa, xx, yy, et + 1, sp, ho, uw - 1, mo, if how < 4 then cs else cs + 1, ent et en (2000 + 100 * how + t)) := by
  by_cases q : how < 4
  · have q2 := q
    rw [Int32.lt_iff_toInt_lt, c4] at q2
    have n4 : ¬ how = 4 := fun e => by rw [e, c4] at q2; omega
    have n5 : ¬ how = 5 := fun e => by rw [e, c5] at q2; omega
    simp only [f_X1_leaveHold, f_X2_deepen, if_neg (is_thing0 h), f_X3_enterLeft, x_enter, if_pos q, if_neg n4, if_neg n5, addm1]
  · have q2 := q
    rw [Int32.lt_iff_toInt_lt, c4] at q2
    by_cases n4 : how = 4
    · simp only [f_X1_leaveHold, f_X2_deepen, if_neg (is_thing0 h), f_X3_enterLeft, x_enter, if_neg q, if_pos n4, addm1]
    · have n5 : how = 5 := eqi (by have := nei n4; rw [c4] at this; rw [c5]; omega)
      simp only [f_X1_leaveHold, f_X2_deepen, if_neg (is_thing0 h), f_X3_enterLeft, x_enter, if_neg q, if_neg n4, if_pos n5, addm1]
theorem x_throw (v : Int32) : f_X5_throwing th ma to rn rf et sp ho mo cs uw wh lo pl nu de si ki aa xx yy en v = (4, th, ma, to, rn, rf, et, sp, ho, mo, cs, uw, v, lo, pl, nu, de, si, ki, aa, xx, yy, en) := rfl
/-- a number of entries more -/
theorem J.et_add (h : J (δ + 1) ma et sp pl nu de si ki aa xx yy) : J δ ma (et + 1) sp pl nu de si ki aa xx yy := by
  have e : (et + 1).toInt = et.toInt + 1 := inc1 h.et0 (by have := h.et5; omega)
  obtain ⟨h1, h2, h3, h4, h5, h6, h7⟩ := h
  refine ⟨h1, h2, h3, fun t => ⟨(h4 t).1, ?_⟩, ⟨by omega, ?_⟩, h6, h7⟩
  · have := (h4 t).2
    omega
  · rw [e]
    omega
end SIM
end
section
section SIM
variable {d δ : Nat} {rm : TRM} {rc : TRC} {th ma to rn rf et sp ho mo cs uw wh lo : Int32} {pl nu de si ki aa xx yy en : Nat → Int32}
theorem rel_call (hR : RR d rm rc) {x b : Int32} (hB : HB4 d x b) (hJ : J δ ma et sp pl nu de si ki aa xx yy) (hlo : LO (d + 1) lo) : REL δ th to rn lo ma de si ki aa xx yy (f_X5_call rm th ma to rn rf et sp ho mo cs uw wh lo pl nu de si ki aa xx yy en x) (f_X1_doCall rc rf ma pl nu de to si ki aa xx yy et sp ho uw mo cs en x b) := by
  obtain ⟨how1, ma1, rf1, et1, sp1, ho1, mo1, cs1, uw1, wh1, pl1, nu1, en1, hM1, hC1, hw1, h41, hm1, hJ1⟩ := hR δ th ma to rn rf et sp ho mo cs uw wh 0 pl nu de si ki aa xx yy en x b 0 hB hJ hlo.zero ⟨fun _ => by decide, fun _ => rfl⟩
  simp only [f_X5_call, f_X1_doCall, hM1, hC1]
  by_cases q : how1 = 3
  · simp only [if_pos q, if_pos ((oc_eq h41 (by decide) (by decide)).mpr q)]
    exact ⟨0, ma1, rf1, et1, sp1, ho1, mo1, cs1, uw1, wh1, pl1, nu1, en1, rfl, by rw [oc0], by decide, fun e => absurd e (by decide), hm1, hJ1⟩
  · simp only [if_neg q, if_neg (fun e => q ((oc_eq h41 (by decide) (by decide)).mp e))]
    exact ⟨how1, ma1, rf1, et1, sp1, ho1, mo1, cs1, uw1, wh1, pl1, nu1, en1, rfl, rfl, hw1, h41, hm1, hJ1⟩
theorem rel_both (hR : RR d rm rc) {x y b il : Int32} (hB : HB4 d x b) (hB2 : HB4 d y b) (hJ : J δ ma et sp pl nu de si ki aa xx yy) (hlo : LO (d + 1) lo) (hil : il = 0 ↔ lo ≤ 0) : REL δ th to rn lo ma de si ki aa xx yy (f_X5_both rm th ma to rn rf et sp ho mo cs uw wh lo pl nu de si ki aa xx yy en x y) (f_X1_doBoth rc rf ma pl nu de to si ki aa xx yy et sp ho uw mo cs en x y b il) := by
  obtain ⟨how1, ma1, rf1, et1, sp1, ho1, mo1, cs1, uw1, wh1, pl1, nu1, en1, hM1, hC1, hw1, h41, hm1, hJ1⟩ := hR δ th ma to rn rf et sp ho mo cs uw wh lo pl nu de si ki aa xx yy en x b il hB hJ hlo.down hil
  simp only [f_X5_both, f_X1_doBoth, hM1, hC1]
  by_cases q : how1 = 5
  · simp only [if_pos q, if_pos ((oc_eq h41 (by decide) (by decide)).mpr q)]
    exact ⟨how1, ma1, rf1, et1, sp1, ho1, mo1, cs1, uw1, wh1, pl1, nu1, en1, rfl, by rw [q, oc5], hw1, h41, hm1, hJ1⟩
  · simp only [if_neg q, if_neg (fun e => q ((oc_eq h41 (by decide) (by decide)).mp e))]
    obtain ⟨how2, ma2, rf2, et2, sp2, ho2, mo2, cs2, uw2, wh2, pl2, nu2, en2, hM2, hC2, hw2, h42, hm2, hJ2⟩ := hR δ th ma1 to rn rf1 et1 sp1 ho1 mo1 cs1 uw1 wh1 lo pl1 nu1 de si ki aa xx yy en1 y b il hB2 hJ1 hlo.down hil
    simp only [hM2, hC2]
    by_cases q2 : how2 = 0
    · simp only [if_pos q2, if_pos ((oc_eq h42 (by decide) (by decide)).mpr q2)]
      exact ⟨how1, ma2, rf2, et2, sp2, ho2, mo2, cs2, uw2, wh1, pl2, nu2, en2, rfl, rfl, hw1, h41, by omega, hJ2⟩
    · simp only [if_neg q2, if_neg (fun e => q2 ((oc_eq h42 (by decide) (by decide)).mp e))]
      exact ⟨how2, ma2, rf2, et2, sp2, ho2, mo2, cs2, uw2, wh2, pl2, nu2, en2, rfl, rfl, hw2, h42, by omega, hJ2⟩
theorem rel_try (hR : RR d rm rc) {a x y b il : Int32} (ha : 0 ≤ a.toInt ∧ a.toInt ≤ 13) (hB : HB4 d x b) (hB2 : HB4 d y b) (hJ : J δ ma et sp pl nu de si ki aa xx yy) (hlo : LO (d + 1) lo) (hil : il = 0 ↔ lo ≤ 0) : REL δ th to rn lo ma de si ki aa xx yy (f_X5_tried rm th ma to rn rf et sp ho mo cs uw wh lo pl nu de si ki aa xx yy en a x y) (f_X1_doTry rc rf ma pl nu de to si ki aa xx yy et sp ho uw mo cs en a x y b il) := by
  obtain ⟨how1, ma1, rf1, et1, sp1, ho1, mo1, cs1, uw1, wh1, pl1, nu1, en1, hM1, hC1, hw1, h41, hm1, hJ1⟩ := hR δ th ma to rn rf et sp ho mo cs uw wh lo pl nu de si ki aa xx yy en x b il hB hJ hlo.down hil
  simp only [f_X5_tried, f_X1_doTry, hM1, hC1]
  have ht := oc_thr hw1 h41
  by_cases q : how1 = 4
  · have hn : ¬ f_X4_isThrown (oc how1 wh1) = 0 := fun e => ht.mp e q
    have hwh := h41 q
    obtain ⟨how2, ma2, rf2, et2, sp2, ho2, mo2, cs2, uw2, wh2, pl2, nu2, en2, hM2, hC2, hw2, h42, hm2, hJ2⟩ := hR δ th ma1 to rn rf1 et1 sp1 ho1 mo1 cs1 uw1 wh1 lo pl1 nu1 de si ki aa xx yy en1 y b il hB2 hJ1 hlo.down hil
    simp only [if_pos q, if_neg hn]
    by_cases qa : a = 0
    · simp only [if_pos qa, hM2, hC2]
      exact ⟨how2, ma2, rf2, et2, sp2, ho2, mo2, cs2, uw2, wh2, pl2, nu2, en2, rfl, rfl, hw2, h42, by omega, hJ2⟩
    · simp only [if_neg qa]
      by_cases qw : a = wh1
      · have qc : oc how1 wh1 = 100 + a := by rw [q, oc4, qw]
        simp only [if_pos qw, if_pos qc, hM2, hC2]
        exact ⟨how2, ma2, rf2, et2, sp2, ho2, mo2, cs2, uw2, wh2, pl2, nu2, en2, rfl, rfl, hw2, h42, by omega, hJ2⟩
      · have qc : ¬ oc how1 wh1 = 100 + a := fun e => qw (eqi (by
          rw [q, oc4] at e
          have e2 := congrArg Int32.toInt e
          rw [t100 (by omega), t100 ha] at e2
          omega))
        simp only [if_neg qw, if_neg qc]
        exact ⟨how1, ma1, rf1, et1, sp1, ho1, mo1, cs1, uw1, wh1, pl1, nu1, en1, rfl, rfl, hw1, h41, hm1, hJ1⟩
  · simp only [if_neg q, if_pos (ht.mpr q)]
    exact ⟨how1, ma1, rf1, et1, sp1, ho1, mo1, cs1, uw1, wh1, pl1, nu1, en1, rfl, rfl, hw1, h41, hm1, hJ1⟩
theorem lp_end {n : Nat} {t x how k : Int32} (h : ¬ how = 0) : L_X5_loop_15 rm (n + 1) t x how k th ma to rn rf et sp ho mo cs uw wh lo pl nu de si ki aa xx yy en = (if how = 1 then 0 else how, th, ma, to, rn, rf, et, sp, ho, mo, cs, uw, wh, lo - 1, pl, nu, de, si, ki, aa, xx, yy, en) := by
  simp only [L_X5_loop_15]
  by_cases q : how = 1
  · simp only [if_pos q, if_neg h]
    split <;> rfl
  · simp only [if_neg q, if_neg h]
    split <;> rfl
theorem rel_lp (hR : RR d rm rc) {t x b : Int32} (ht : t.toInt ≤ 5) (hB : HB4 d x b) (hlo : LO (d + 1) lo) : ∀ (n k : Nat) (ma rf et sp ho mo cs uw wh : Int32) (pl nu en : Nat → Int32), k ≤ 5 → 5 < k + n → J δ ma et sp pl nu de si ki aa xx yy → REL δ th to rn lo ma de si ki aa xx yy (L_X5_loop_15 rm n t x 0 (nI k) th ma to rn rf et sp ho mo cs uw wh (lo + 1) pl nu de si ki aa xx yy en) (L_X1_doLoop_10 rc n t x b t (nI k) rf ma pl nu de to si ki aa xx yy et sp ho uw mo cs en) := by
  intro n
  induction n with
  | zero =>
    intro k ma rf et sp ho mo cs uw wh pl nu en h1 h2
    exact absurd h2 (by omega)
  | succ n ih =>
    intro k ma rf et sp ho mo cs uw wh pl nu en h1 h2 hJ
    have eL : L_X5_loop_15 rm (n + 1) t x 0 (nI k) th ma to rn rf et sp ho mo cs uw wh (lo + 1) pl nu de si ki aa xx yy en = (if t ≤ nI k then (0, th, ma, to, rn, rf, et, sp, ho, mo, cs, uw, wh, lo + 1 - 1, pl, nu, de, si, ki, aa, xx, yy, en) else (match rm th ma to rn rf et sp ho mo cs uw wh (lo + 1) pl nu de si ki aa xx yy en x with | (r_5, th_5, ma_5, to_5, rn_5, rf_5, et_5, sp_5, ho_5, mo_5, cs_5, uw_5, wh_5, lo_5, pl_5, nu_5, de_5, si_5, ki_5, aa_5, xx_5, yy_5, en_5) => (if r_5 = 2 then L_X5_loop_15 rm n t x 0 (nI k + 1) th_5 ma_5 to_5 rn_5 rf_5 et_5 sp_5 ho_5 mo_5 cs_5 uw_5 wh_5 lo_5 pl_5 nu_5 de_5 si_5 ki_5 aa_5 xx_5 yy_5 en_5 else L_X5_loop_15 rm n t x r_5 (nI k + 1) th_5 ma_5 to_5 rn_5 rf_5 et_5 sp_5 ho_5 mo_5 cs_5 uw_5 wh_5 lo_5 pl_5 nu_5 de_5 si_5 ki_5 aa_5 xx_5 yy_5 en_5))) := by
      simp only [L_X5_loop_15, if_neg (show ¬ (0 : Int32) = 1 by decide), if_true]
    rw [eL]
    simp only [L_X1_doLoop_10]
    by_cases q : t ≤ nI k
    · simp only [if_pos q]
      exact ⟨0, ma, rf, et, sp, ho, mo, cs, uw, wh, pl, nu, en, by rw [add1sub1], by rw [oc0], by decide, fun e => absurd e (by decide), by omega, hJ⟩
    · simp only [if_neg q]
      have hk5 : k < 5 := by
        rw [Int32.le_iff_toInt_le, nI_ti (by omega)] at q
        omega
      have hup := hlo.up
      have hil : (1 : Int32) = 0 ↔ lo + 1 ≤ 0 := by
        constructor
        · intro e
          exact absurd e (by decide)
        · intro e
          rw [Int32.le_iff_toInt_le, c0] at e
          have e2 : (lo + 1).toInt = lo.toInt + 1 := inc1 hlo.1 (by have := hlo.2; omega)
          have := hlo.1
          omega
      obtain ⟨how1, ma1, rf1, et1, sp1, ho1, mo1, cs1, uw1, wh1, pl1, nu1, en1, hM1, hC1, hw1, h41, hm1, hJ1⟩ := hR δ th ma to rn rf et sp ho mo cs uw wh (lo + 1) pl nu de si ki aa xx yy en x b 1 hB hJ hup hil
      simp only [hM1, hC1]
      have nk : nI k + 1 = nI (k + 1) := nI_1 k
      by_cases q2 : how1 = 2
      · subst q2
        have n1 : ¬ oc 2 wh1 = 1 := by rw [oc2]; decide
        have n0 : ¬ oc 2 wh1 = 0 := by rw [oc2]; decide
        simp only [if_true, if_neg n1, if_neg n0, oc2, nk]
        exact (ih (k + 1) ma1 rf1 et1 sp1 ho1 mo1 cs1 uw1 wh1 pl1 nu1 en1 (by omega) (by omega) hJ1).mono hm1 (Nat.le_refl _)
      · have n2 : ¬ oc how1 wh1 = 2 := fun e => q2 ((oc_eq h41 (by decide) (by decide)).mp e)
        simp only [if_neg q2, if_neg n2]
        by_cases q0 : how1 = 0
        · subst q0
          have n1 : ¬ oc 0 wh1 = 1 := by rw [oc0]; decide
          simp only [if_neg n1, oc0, if_true, nk]
          exact (ih (k + 1) ma1 rf1 et1 sp1 ho1 mo1 cs1 uw1 wh1 pl1 nu1 en1 (by omega) (by omega) hJ1).mono hm1 (Nat.le_refl _)
        · have n0 : ¬ oc how1 wh1 = 0 := fun e => q0 ((oc_eq h41 (by decide) (by decide)).mp e)
          obtain ⟨n', rfl⟩ : ∃ n', n = n' + 1 := ⟨n - 1, by omega⟩
          rw [lp_end q0, add1sub1]
          by_cases q1 : how1 = 1
          · have n1 : oc how1 wh1 = 1 := (oc_eq h41 (by decide) (by decide)).mpr q1
            simp only [if_pos q1, if_pos n1]
            exact ⟨0, ma1, rf1, et1, sp1, ho1, mo1, cs1, uw1, wh1, pl1, nu1, en1, rfl, by rw [oc0], by decide, fun e => absurd e (by decide), hm1, hJ1⟩
          · have n1 : ¬ oc how1 wh1 = 1 := fun e => q1 ((oc_eq h41 (by decide) (by decide)).mp e)
            simp only [if_neg q1, if_neg n1, if_neg n0]
            exact ⟨how1, ma1, rf1, et1, sp1, ho1, mo1, cs1, uw1, wh1, pl1, nu1, en1, rfl, rfl, hw1, h41, hm1, hJ1⟩
theorem rel_loop (hR : RR d rm rc) {t x b : Int32} (ht : t.toInt ≤ 5) (hB : HB4 d x b) (hJ : J δ ma et sp pl nu de si ki aa xx yy) (hlo : LO (d + 1) lo) : REL δ th to rn lo ma de si ki aa xx yy (f_X5_loop rm th ma to rn rf et sp ho mo cs uw wh lo pl nu de si ki aa xx yy en t x) (f_X1_doLoop rc rf ma pl nu de to si ki aa xx yy et sp ho uw mo cs en t x b) := by
  have e : (if 5 < t then 5 else t : Int32) = t := if_neg (by rw [Int32.lt_iff_toInt_lt, c5]; omega)
  simp only [f_X5_loop, f_X1_doLoop, e]
  have := rel_lp (th := th) (to := to) (rn := rn) hR ht hB hlo 6 0 ma rf et sp ho mo cs uw wh pl nu en (by omega) (by omega) hJ
  rw [nI_0] at this
  exact this
theorem de_at (hJ : J (δ + 14) ma et sp pl nu de si ki aa xx yy) (n : Nat) : (de n + 1).toInt = (de n).toInt + 1 := inc1 (hJ.2.2.2.1 n).1 (by have h1 := (hJ.2.2.2.1 n).2; have h2 := hJ.2.2.2.2.2.1.2; omega)
theorem J_begin {t : Int32} (hJ : J (δ + 14) ma et sp pl nu de si ki aa xx yy) (ht : 0 ≤ t.toInt ∧ t.toInt < ma.toInt) : J (δ + 1) ma (et + 1) sp pl nu (upd de t.toNatClampNeg (de t.toNatClampNeg + 1)) si ki aa xx yy := by
  have e : (et + 1).toInt = et.toInt + 1 := inc1 hJ.et0 (by have := hJ.et5; omega)
  have ed := de_at hJ
  have hc := cln ht.1
  obtain ⟨h1, h2, h3, h4, h5, h6, h7⟩ := hJ
  refine ⟨h1, h2, fun s hs => ⟨(h3 s hs).1, ?_⟩, fun s => ?_, ⟨by omega, by rw [e]; omega⟩, h6, h7⟩
  · rw [pk_un (by omega)]
    exact (h3 s hs).2
  · by_cases q : s = t.toNatClampNeg
    · rw [q, pk_us, ed]
      have := h4 t.toNatClampNeg
      omega
    · rw [pk_un q]
      have := h4 s
      omega
theorem J_leave {t : Int32} (hJ : J (δ + 14) ma et sp pl nu de si ki aa xx yy) (ht : 0 ≤ t.toInt ∧ t.toInt < ma.toInt) {ma1 et1 sp1 : Int32} {pl1 nu1 : Nat → Int32} (hm : ma.toInt ≤ ma1.toInt) (hJ1 : J (δ + 1) ma1 et1 sp1 pl1 nu1 (upd de t.toNatClampNeg (de t.toNatClampNeg + 1)) si ki aa xx yy) : J δ ma1 (et1 + 1) sp1 pl1 nu1 de si ki aa xx yy := by
  have e : (et1 + 1).toInt = et1.toInt + 1 := inc1 hJ1.et0 (by have := hJ1.et5; omega)
  have ed := de_at hJ
  obtain ⟨g1, g2, g3, g4, g5, g6, g7⟩ := hJ1
  refine ⟨g1, g2, fun s hs => ⟨(g3 s hs).1, (hJ.2.2.1 s (by omega)).2⟩, fun s => ?_, ⟨by omega, by rw [e]; omega⟩, g6, g7⟩
  have q1 := g4 s
  have q2 := hJ.2.2.2.1 s
  by_cases q : s = t.toNatClampNeg
  · rw [q, pk_us, ed] at q1
    rw [q] at q2 ⊢
    omega
  · rw [pk_un q] at q1
    omega
theorem rel_hold (hR : RR d rm rc) {a x b il : Int32} (ha : vp_in a 6) (hB : HB4 d x b) (hJ : J (δ + 14) ma et sp pl nu de si ki aa xx yy) (hlo : LO (d + 1) lo) (hil : il = 0 ↔ lo ≤ 0) : REL δ th to rn lo ma de si ki aa xx yy (if pl a.toNatClampNeg = (-1) then (4, th, ma, to, rn, rf + 1, et, sp, ho, mo, cs, uw, 12, lo, pl, nu, de, si, ki, aa, xx, yy, en) else f_X5_hold rm th ma to rn rf et sp ho mo cs uw wh lo pl nu de si ki aa xx yy en (pl a.toNatClampNeg) x) (f_X1_doHold rc rf ma pl nu de to si ki aa xx yy et sp ho uw mo cs en a x b il) := by
  by_cases q : pl a.toNatClampNeg = (-1)
  · simp only [f_X1_doHold, x_thing ha, if_pos q]
    exact ⟨4, ma, rf + 1, et, sp, ho, mo, cs, uw, 12, pl, nu, en, rfl, by rw [oc4]; rfl, by decide, fun _ => by decide, by omega, hJ.weak (by omega)⟩
  · have ht := pl_ok hJ ha q
    have hJb := J_begin hJ ht
    simp only [f_X5_hold, f_X1_doHold, x_thing ha, if_neg q, x_begin, x_cbegin ht]
    obtain ⟨how1, ma1, rf1, et1, sp1, ho1, mo1, cs1, uw1, wh1, pl1, nu1, en1, hM1, hC1, hw1, h41, hm1, hJ1⟩ := hR (δ + 1) th ma to rn rf (et + 1) sp (ho + 1) (mx mo (uw + 1)) cs (uw + 1) wh lo pl nu (upd de (pl a.toNatClampNeg).toNatClampNeg (de (pl a.toNatClampNeg).toNatClampNeg + 1)) si ki aa xx yy (ent et en (1000 + pl a.toNatClampNeg)) x b il hB hJb hlo.down hil
    have ht1 : 0 ≤ (pl a.toNatClampNeg).toInt ∧ (pl a.toNatClampNeg).toInt < ma1.toInt := by omega
    have hfin := J_leave hJ ht hm1 hJ1
    have hth := oc_thr hw1 h41
    simp only [hM1, hC1, x_leave, upd_back]
    by_cases q4 : how1 = 4
    · simp only [if_neg (fun e => hth.mp e q4), x_cleave ht1 (show 0 ≤ (4 : Int32).toInt ∧ (4 : Int32).toInt ≤ 5 by decide), upd_back]
      subst q4
      exact ⟨4, ma1, rf1, et1 + 1, sp1, ho1, mo1, _, _, wh1, pl1, nu1, _, rfl, rfl, hw1, h41, hm1, hfin⟩
    · have e4 : oc how1 wh1 = how1 := if_neg q4
      have hz : f_X4_isThrown how1 = 0 := by
        have := hth.mpr q4
        rw [e4] at this
        exact this
      simp only [e4, if_pos hz, x_cleave ht1 hw1, upd_back]
      exact ⟨how1, ma1, rf1, et1 + 1, sp1, ho1, mo1, _, _, wh1, pl1, nu1, _, rfl, by rw [e4], hw1, h41, hm1, hfin⟩
end SIM
end
section
section SIM
variable {d δ : Nat} {rm : TRM} {rc : TRC} {th ma to rn rf et sp ho mo cs uw wh lo : Int32} {pl nu de si ki aa xx yy en : Nat → Int32}
theorem rel_add {a x : Int32} (hx : vp_in x 6) (hJ : J δ ma et sp pl nu de si ki aa xx yy) : REL δ th to rn lo ma de si ki aa xx yy (f_X5_add th ma to rn rf et sp ho mo cs uw wh lo pl nu de si ki aa xx yy en (pl x.toNatClampNeg) a) (f_X1_doAdd rf ma pl nu de to si ki aa xx yy et sp ho uw mo cs en a x) := by
  simp only [f_X5_add, f_X1_doAdd, x_thing hx, x_throw]
  by_cases q : pl x.toNatClampNeg = (-1)
  · simp only [if_pos q]
    exact ⟨4, ma, rf, et, sp, ho, mo, cs, uw, 12, pl, nu, en, rfl, by rw [oc4]; rfl, by decide, fun _ => by decide, by omega, hJ⟩
  · have ht := pl_ok hJ hx q
    have hd := hJ.2.2.2.1 (pl x.toNatClampNeg).toNatClampNeg
    simp only [if_neg q, f_X2_isHeld, if_neg (is_thing0 ht), f_X2_raiseNumber]
    by_cases q0 : de (pl x.toNatClampNeg).toNatClampNeg = 0
    · have q1 : de (pl x.toNatClampNeg).toNatClampNeg ≤ 0 := by rw [q0]; decide
      simp only [if_pos q0, if_pos q1, if_true]
      exact ⟨4, ma, rf, et, sp, ho, mo, cs, uw, 11, pl, nu, en, rfl, by rw [oc4]; rfl, by decide, fun _ => by decide, by omega, hJ⟩
    · have q1 : ¬ de (pl x.toNatClampNeg).toNatClampNeg ≤ 0 := by
        have := nei q0
        rw [c0] at this
        rw [Int32.le_iff_toInt_le, c0]
        omega
      simp only [if_neg q0, if_neg q1, if_neg (show ¬ (1 : Int32) = 0 by decide)]
      refine ⟨0, ma, rf, et, sp, ho, mo, cs, uw, wh, pl, _, en, rfl, by rw [oc0], by decide, fun e => absurd e (by decide), by omega, ?_⟩
      have hc := cln ht.1
      obtain ⟨h1, h2, h3, h4, h5, h6, h7⟩ := hJ
      refine ⟨h1, h2, fun s hs => ⟨?_, (h3 s hs).2⟩, h4, h5, h6, h7⟩
      rw [pk_un (by omega)]
      exact (h3 s hs).1
theorem J_put {x v : Int32} (hJ : J δ ma et sp pl nu de si ki aa xx yy) (hx : vp_in x 6) (hv : v.toInt = -1 ∨ (0 ≤ v.toInt ∧ v.toInt < ma.toInt)) : J δ ma et sp (upd pl x.toNatClampNeg v) nu de si ki aa xx yy := by
  obtain ⟨h1, h2, h3, h4, h5, h6, h7⟩ := hJ
  refine ⟨h1, fun p hp => ?_, h3, h4, h5, h6, h7⟩
  by_cases q : p = x.toNatClampNeg
  · rw [q, pk_us]
    exact hv
  · rw [pk_un q]
    exact h2 p hp
theorem pl_or {x : Int32} (hJ : J δ ma et sp pl nu de si ki aa xx yy) (hx : vp_in x 6) : (pl x.toNatClampNeg).toInt = -1 ∨ (0 ≤ (pl x.toNatClampNeg).toInt ∧ (pl x.toNatClampNeg).toInt < ma.toInt) := by
  obtain ⟨j, h1, h2, h3⟩ := vpn hx
  rw [h3]
  exact hJ.2.1 j h1
theorem x_made (hJ : J δ ma et sp pl nu de si ki aa xx yy) (p : Int32) : f_X5_made th ma to rn rf et sp ho mo cs uw wh lo pl nu de si ki aa xx yy en p = (ma, th, ma + 1, to, rn, rf, et, sp, ho, mo, cs, uw, wh, lo, upd pl p.toNatClampNeg ma, nu, de, si, ki, aa, xx, yy, en) := by
  have hc := cln hJ.1.1
  have h := hJ.2.2.1 ma.toNatClampNeg (by omega)
  have e1 : upd nu ma.toNatClampNeg 0 = nu := by
    have := upd_id nu ma.toNatClampNeg
    rw [h.1] at this
    exact this
  have e2 : upd de ma.toNatClampNeg 0 = de := by
    have := upd_id de ma.toNatClampNeg
    rw [h.2] at this
    exact this
  simp only [f_X5_made, e1, e2, add1sub1]
theorem J_made {x : Int32} (hJ : J δ ma et sp pl nu de si ki aa xx yy) (hx : vp_in x 6) (hm : ¬ ma = 60) : J δ (ma + 1) et sp (upd pl x.toNatClampNeg ma) nu de si ki aa xx yy := by
  have e : (ma + 1).toInt = ma.toInt + 1 := inc1 hJ.1.1 (by have := hJ.1.2; omega)
  have hn := nei hm
  rw [c60] at hn
  have hJ2 := J_put (δ := δ) (ma := ma + 1) (v := ma) (x := x) (et := et) (sp := sp) (pl := pl) (nu := nu) (de := de) (si := si) (ki := ki) (aa := aa) (xx := xx) (yy := yy) (by
    obtain ⟨h1, h2, h3, h4, h5, h6, h7⟩ := hJ
    exact ⟨by omega, fun p hp => (h2 p hp).imp id (fun q => by omega), fun t ht => h3 t (by omega), h4, h5, h6, h7⟩) hx (Or.inr (by have := hJ.1.1; omega))
  exact hJ2
theorem rel_new {a : Int32} (ha : vp_in a 6) (hJ : J δ ma et sp pl nu de si ki aa xx yy) : REL δ th to rn lo ma de si ki aa xx yy (if ma = 60 then (4, th, ma, to, rn, rf, et, sp, ho, mo, cs, uw, 13, lo, pl, nu, de, si, ki, aa, xx, yy, en) else (match f_X5_made th ma to rn rf et sp ho mo cs uw wh lo pl nu de si ki aa xx yy en a with | (r_27, th_27, ma_27, to_27, rn_27, rf_27, et_27, sp_27, ho_27, mo_27, cs_27, uw_27, wh_27, lo_27, pl_27, nu_27, de_27, si_27, ki_27, aa_27, xx_27, yy_27, en_27) => (0, th_27, ma_27, to_27, rn_27, rf_27, et_27, sp_27, ho_27, mo_27, cs_27, uw_27, wh_27, lo_27, pl_27, nu_27, de_27, si_27, ki_27, aa_27, xx_27, yy_27, en_27))) (f_X1_doNew rf ma pl nu de to si ki aa xx yy et sp ho uw mo cs en a) := by
  by_cases q : ma = 60
  · have q1 : ¬ ma < 60 := by rw [q]; decide
    simp only [if_pos q, f_X1_doNew, f_X2_makeThing, if_neg q1, if_true]
    exact ⟨4, ma, rf, et, sp, ho, mo, cs, uw, 13, pl, nu, en, rfl, by rw [oc4]; rfl, by decide, fun _ => by decide, by omega, hJ⟩
  · have hn := nei q
    rw [c60] at hn
    have q1 : ma < 60 := by rw [Int32.lt_iff_toInt_lt, c60]; have := hJ.1.2; omega
    have q3 : ¬ ma = (-3) := fun e => by have := hJ.1.1; rw [e] at this; exact absurd this (by decide)
    have e : (ma + 1).toInt = ma.toInt + 1 := inc1 hJ.1.1 (by have := hJ.1.2; omega)
    simp only [if_neg q, f_X1_doNew, f_X2_makeThing, if_pos q1, x_put ha, if_neg q3, x_made hJ]
    exact ⟨0, ma + 1, rf, et, sp, ho, mo, cs, uw, wh, _, nu, en, rfl, by rw [oc0], by decide, fun e => absurd e (by decide), by omega, J_made hJ ha q⟩
theorem rel_sw {a : Int32} : ∀ (n k e : Nat) (sum et ho mo uw : Int32) (en : Nat → Int32) (more last : Int32), (more = 1 ∧ last = 0) ∨ (more = 0 ∧ last = 1) → k ≤ 6 → 6 < k + n → J e ma et sp pl nu de si ki aa xx yy → δ + 13 ≤ e + 2 * k → ∃ (et' ho' mo' : Int32) (en' : Nat → Int32), L_X5_sweep_7 n a sum more (nI k) th ma to rn rf et sp ho mo cs uw wh lo pl nu de si ki aa xx yy en = (0, th, ma, to, rn, rf, et', sp, ho', mo', cs, uw, wh, lo, pl, nu, de, si, ki, aa, xx, yy, en') ∧ L_X1_doSweep_7 n a sum last (nI k) rf ma pl nu de to si ki aa xx yy et sp ho uw mo cs en = (rf, ma, pl, nu, de, to, si, ki, aa, xx, yy, et', sp, ho', uw, mo', cs, en') ∧ J δ ma (et') sp pl nu de si ki aa xx yy := by
  intro n
  induction n with
  | zero =>
    intro k e sum et ho mo uw en more last hml h1 h2
    exact absurd h2 (by omega)
  | succ n ih =>
    intro k e sum et ho mo uw en more last hml h1 h2 hJ he
    have fin : J δ ma (et + 1) sp pl nu de si ki aa xx yy := J.et_add (hJ.weak (by omega))
    simp only [L_X5_sweep_7, L_X1_doSweep_7]
    by_cases q6 : 6 ≤ nI k
    · simp only [if_pos q6, x_comes, x_mark]
      exact ⟨_, _, _, _, rfl, rfl, fin⟩
    · simp only [if_neg q6]
      have hk := lt_nI (x := nI k) (by omega) rfl q6
      have nk : nI k + 1 = nI (k + 1) := nI_1 k
      have hp : vp_in (nI k) 6 := in6 (by omega) rfl q6
      rcases hml with ⟨rfl, rfl⟩ | ⟨rfl, rfl⟩
      · simp only [if_neg (show ¬ (1 : Int32) = 0 by decide), if_true, x_thing hp, nk]
        by_cases q : pl (nI k).toNatClampNeg = (-1)
        · simp only [if_pos q]
          exact ih (k + 1) e sum et ho mo uw en 1 0 (Or.inl ⟨rfl, rfl⟩) (by omega) (by omega) hJ (by omega)
        · have ht := pl_ok hJ hp q
          have hJ2 : J (e - 2) ma (et + 1 + 1) sp pl nu de si ki aa xx yy := J.et_add (J.et_add (hJ.weak (by omega)))
          have hns : f_X2_numberOf ma pl nu (upd de (pl (nI k).toNatClampNeg).toNatClampNeg (de (pl (nI k).toNatClampNeg).toNatClampNeg + 1)) (pl (nI k).toNatClampNeg) = nu (pl (nI k).toNatClampNeg).toNatClampNeg := by
            unfold f_X2_numberOf
            rw [if_neg (is_thing0 ht)]
          have lt04 : ((0 : Int32) < 4) = True := eq_true (by decide)
          simp only [if_neg q, x_begin, x_cbegin ht, hns, x_leave, x_cleave ht (show 0 ≤ (0 : Int32).toInt ∧ (0 : Int32).toInt ≤ 5 by decide), upd_back, add1sub1, lt04, if_true]
          by_cases qa : nu (pl (nI k).toNatClampNeg).toNatClampNeg = a
          · simp only [if_pos qa]
            exact ih (k + 1) (e - 2) sum _ _ _ uw _ 1 0 (Or.inl ⟨rfl, rfl⟩) (by omega) (by omega) hJ2 (by omega)
          · simp only [if_neg qa]
            by_cases qn : nu (pl (nI k).toNatClampNeg).toNatClampNeg < 0
            · have qm : ¬ 0 ≤ nu (pl (nI k).toNatClampNeg).toNatClampNeg := by
                rw [Int32.lt_iff_toInt_lt] at qn
                rw [Int32.le_iff_toInt_le]
                omega
              simp only [if_pos qn, if_neg qm]
              exact ih (k + 1) (e - 2) _ _ _ _ uw _ 0 1 (Or.inr ⟨rfl, rfl⟩) (by omega) (by omega) hJ2 (by omega)
            · have qm : 0 ≤ nu (pl (nI k).toNatClampNeg).toNatClampNeg := by
                rw [Int32.lt_iff_toInt_lt] at qn
                rw [Int32.le_iff_toInt_le]
                omega
              simp only [if_neg qn, if_pos qm]
              exact ih (k + 1) (e - 2) _ _ _ _ uw _ 1 0 (Or.inl ⟨rfl, rfl⟩) (by omega) (by omega) hJ2 (by omega)
      · simp only [if_true, if_neg (show ¬ (1 : Int32) = 0 by decide), x_comes, x_mark]
        exact ⟨_, _, _, _, rfl, rfl, fin⟩
theorem rel_sweep {a : Int32} (hJ : J (δ + 14) ma et sp pl nu de si ki aa xx yy) : ∃ (et' ho' mo' : Int32) (en' : Nat → Int32), f_X5_sweep th ma to rn rf et sp ho mo cs uw wh lo pl nu de si ki aa xx yy en a = (0, th, ma, to, rn, rf, et', sp, ho', mo', cs, uw, wh, lo, pl, nu, de, si, ki, aa, xx, yy, en') ∧ f_X1_doSweep rf ma pl nu de to si ki aa xx yy et sp ho uw mo cs en a = (rf, ma, pl, nu, de, to, si, ki, aa, xx, yy, et', sp, ho', uw, mo', cs, en') ∧ J δ ma (et') sp pl nu de si ki aa xx yy := by
  have := rel_sw (δ := δ) (a := a) (th := th) (to := to) (rn := rn) (rf := rf) (cs := cs) (wh := wh) (lo := lo) 7 0 (δ + 14) 0 et ho mo uw en 1 0 (Or.inl ⟨rfl, rfl⟩) (by omega) (by omega) hJ (by omega)
  rw [nI_0] at this
  exact this
end SIM
end
section
section SIM
variable {d δ : Nat} {rm : TRM} {rc : TRC} {th ma to rn rf et sp ho mo cs uw wh lo : Int32} {pl nu de si ki aa xx yy en : Nat → Int32}
theorem rel_step (hR : RR d rm rc) {b at_ il : Int32} (hV : SV d b at_ ki aa xx yy) (hJ : J δ ma et sp pl nu de si ki aa xx yy) (hs : sp.toInt < 300) (hlo : LO (d + 1) lo) (hil : il = 0 ↔ lo ≤ 0) : REL δ th to rn lo ma de si ki aa xx yy (f_X5_doStep rm th ma to rn rf et (sp + 1) ho mo cs uw wh lo pl nu de si ki aa xx yy en at_) (f_X1_doStep rc rf ma pl nu de to si ki aa xx yy et sp ho uw mo cs en b at_ il) := by
  have hJ14 := J_stepg hJ hs
  have hsp : sp < 300 := by rw [Int32.lt_iff_toInt_lt, c300]; exact hs
  have hM := hV.sm
  by_cases h0 : ki at_.toNatClampNeg = 0
  · simp only [f_X5_doStep, f_X1_doStep, if_pos hsp, if_pos h0, x_comes, x_mark]
    exact ⟨0, ma, rf, et + 1, sp + 1, ho, mo, cs, uw, wh, pl, nu, _, rfl, by rw [oc0], by decide, fun e => absurd e (by decide), by omega, J.et_add (hJ14.weak (by omega))⟩
  by_cases h1 : ki at_.toNatClampNeg = 1
  · have h : REL δ th to rn lo ma de si ki aa xx yy (if pl (aa at_.toNatClampNeg).toNatClampNeg = (-1) then (4, th, ma, to, rn, rf + 1, et, sp + 1, ho, mo, cs, uw, 12, lo, pl, nu, de, si, ki, aa, xx, yy, en) else f_X5_hold rm th ma to rn rf et (sp + 1) ho mo cs uw wh lo pl nu de si ki aa xx yy en (pl (aa at_.toNatClampNeg).toNatClampNeg) (xx at_.toNatClampNeg)) (f_X1_doHold rc rf ma pl nu de to si ki aa xx yy et (sp + 1) ho uw mo cs en (aa at_.toNatClampNeg) (xx at_.toNatClampNeg) b il) := rel_hold hR (sm_1p hM h1) (sv_1 hV h1) hJ14 hlo hil
    by_cases q : pl (aa at_.toNatClampNeg).toNatClampNeg = (-1)
    · rw [if_pos q] at h
      obtain ⟨how1, ma1, rf1, et1, sp1, ho1, mo1, cs1, uw1, wh1, pl1, nu1, en1, hM1, hC1, hw1, h41, hm1, hJ1⟩ := h
      simp only [f_X5_doStep, f_X1_doStep, if_pos hsp, if_neg h0, if_pos h1, if_pos q, x_throw, hC1]
      exact ⟨how1, ma1, rf1, et1, sp1, ho1, mo1, cs1, uw1, wh1, pl1, nu1, en1, hM1, rfl, hw1, h41, hm1, hJ1⟩
    · rw [if_neg q] at h
      obtain ⟨how1, ma1, rf1, et1, sp1, ho1, mo1, cs1, uw1, wh1, pl1, nu1, en1, hM1, hC1, hw1, h41, hm1, hJ1⟩ := h
      simp only [f_X5_doStep, f_X1_doStep, if_pos hsp, if_neg h0, if_pos h1, if_neg q, hM1, hC1]
      exact ⟨how1, ma1, rf1, et1, sp1, ho1, mo1, cs1, uw1, wh1, pl1, nu1, en1, rfl, rfl, hw1, h41, hm1, hJ1⟩
  by_cases h2 : ki at_.toNatClampNeg = 2
  · have h : REL δ th to rn lo ma de si ki aa xx yy (f_X5_loop rm th ma to rn rf et (sp + 1) ho mo cs uw wh lo pl nu de si ki aa xx yy en (aa at_.toNatClampNeg) (xx at_.toNatClampNeg)) (f_X1_doLoop rc rf ma pl nu de to si ki aa xx yy et (sp + 1) ho uw mo cs en (aa at_.toNatClampNeg) (xx at_.toNatClampNeg) b) := rel_loop hR (sm_2a hM h2) (sv_2 hV h2) (hJ14.weak (by omega)) hlo
    obtain ⟨how1, ma1, rf1, et1, sp1, ho1, mo1, cs1, uw1, wh1, pl1, nu1, en1, hM1, hC1, hw1, h41, hm1, hJ1⟩ := h
    simp only [f_X5_doStep, f_X1_doStep, if_pos hsp, if_neg h0, if_neg h1, if_pos h2, hM1, hC1]
    exact ⟨how1, ma1, rf1, et1, sp1, ho1, mo1, cs1, uw1, wh1, pl1, nu1, en1, rfl, rfl, hw1, h41, hm1, hJ1⟩
  by_cases h3 : ki at_.toNatClampNeg = 3
  · simp only [f_X5_doStep, f_X1_doStep, if_pos hsp, if_neg h0, if_neg h1, if_neg h2, if_pos h3]
    by_cases q : lo ≤ 0
    · simp only [if_pos q, if_pos (hil.mpr q)]
      exact ⟨3, ma, rf, et, sp + 1, ho, mo, cs, uw, wh, pl, nu, en, rfl, by rw [oc3], by decide, fun e => absurd e (by decide), by omega, (hJ14.weak (by omega))⟩
    · simp only [if_neg q, if_neg (fun e => q (hil.mp e))]
      exact ⟨1, ma, rf, et, sp + 1, ho, mo, cs, uw, wh, pl, nu, en, rfl, by rw [oc1], by decide, fun e => absurd e (by decide), by omega, (hJ14.weak (by omega))⟩
  by_cases h4 : ki at_.toNatClampNeg = 4
  · simp only [f_X5_doStep, f_X1_doStep, if_pos hsp, if_neg h0, if_neg h1, if_neg h2, if_neg h3, if_pos h4]
    by_cases q : lo ≤ 0
    · simp only [if_pos q, if_pos (hil.mpr q)]
      exact ⟨3, ma, rf, et, sp + 1, ho, mo, cs, uw, wh, pl, nu, en, rfl, by rw [oc3], by decide, fun e => absurd e (by decide), by omega, (hJ14.weak (by omega))⟩
    · simp only [if_neg q, if_neg (fun e => q (hil.mp e))]
      exact ⟨2, ma, rf, et, sp + 1, ho, mo, cs, uw, wh, pl, nu, en, rfl, by rw [oc2], by decide, fun e => absurd e (by decide), by omega, (hJ14.weak (by omega))⟩
  by_cases h5 : ki at_.toNatClampNeg = 5
  · simp only [f_X5_doStep, f_X1_doStep, if_pos hsp, if_neg h0, if_neg h1, if_neg h2, if_neg h3, if_neg h4, if_pos h5]
    exact ⟨3, ma, rf, et, sp + 1, ho, mo, cs, uw, wh, pl, nu, en, rfl, by rw [oc3], by decide, fun e => absurd e (by decide), by omega, (hJ14.weak (by omega))⟩
  by_cases h6 : ki at_.toNatClampNeg = 6
  · simp only [f_X5_doStep, f_X1_doStep, if_pos hsp, if_neg h0, if_neg h1, if_neg h2, if_neg h3, if_neg h4, if_neg h5, if_pos h6, x_throw]
    exact ⟨4, ma, rf, et, sp + 1, ho, mo, cs, uw, (aa at_.toNatClampNeg), pl, nu, en, rfl, by rw [oc4], by decide, fun _ => by have := sm_6 hM h6; omega, by omega, (hJ14.weak (by omega))⟩
  by_cases h7 : ki at_.toNatClampNeg = 7
  · have h : REL δ th to rn lo ma de si ki aa xx yy (f_X5_tried rm th ma to rn rf et (sp + 1) ho mo cs uw wh lo pl nu de si ki aa xx yy en (aa at_.toNatClampNeg) (xx at_.toNatClampNeg) (yy at_.toNatClampNeg)) (f_X1_doTry rc rf ma pl nu de to si ki aa xx yy et (sp + 1) ho uw mo cs en (aa at_.toNatClampNeg) (xx at_.toNatClampNeg) (yy at_.toNatClampNeg) b il) := rel_try hR (sm_7a hM h7) (sv_7x hV h7) (sv_7y hV h7) (hJ14.weak (by omega)) hlo hil
    obtain ⟨how1, ma1, rf1, et1, sp1, ho1, mo1, cs1, uw1, wh1, pl1, nu1, en1, hM1, hC1, hw1, h41, hm1, hJ1⟩ := h
    simp only [f_X5_doStep, f_X1_doStep, if_pos hsp, if_neg h0, if_neg h1, if_neg h2, if_neg h3, if_neg h4, if_neg h5, if_neg h6, if_pos h7, hM1, hC1]
    exact ⟨how1, ma1, rf1, et1, sp1, ho1, mo1, cs1, uw1, wh1, pl1, nu1, en1, rfl, rfl, hw1, h41, hm1, hJ1⟩
  by_cases h8 : ki at_.toNatClampNeg = 8
  · have h : REL δ th to rn lo ma de si ki aa xx yy (f_X5_both rm th ma to rn rf et (sp + 1) ho mo cs uw wh lo pl nu de si ki aa xx yy en (xx at_.toNatClampNeg) (yy at_.toNatClampNeg)) (f_X1_doBoth rc rf ma pl nu de to si ki aa xx yy et (sp + 1) ho uw mo cs en (xx at_.toNatClampNeg) (yy at_.toNatClampNeg) b il) := rel_both hR (sv_8x hV h8) (sv_8y hV h8) (hJ14.weak (by omega)) hlo hil
    obtain ⟨how1, ma1, rf1, et1, sp1, ho1, mo1, cs1, uw1, wh1, pl1, nu1, en1, hM1, hC1, hw1, h41, hm1, hJ1⟩ := h
    simp only [f_X5_doStep, f_X1_doStep, if_pos hsp, if_neg h0, if_neg h1, if_neg h2, if_neg h3, if_neg h4, if_neg h5, if_neg h6, if_neg h7, if_pos h8, hM1, hC1]
    exact ⟨how1, ma1, rf1, et1, sp1, ho1, mo1, cs1, uw1, wh1, pl1, nu1, en1, rfl, rfl, hw1, h41, hm1, hJ1⟩
  by_cases h9 : ki at_.toNatClampNeg = 9
  · have h : REL δ th to rn lo ma de si ki aa xx yy (f_X5_call rm th ma to rn rf et (sp + 1) ho mo cs uw wh lo pl nu de si ki aa xx yy en (xx at_.toNatClampNeg)) (f_X1_doCall rc rf ma pl nu de to si ki aa xx yy et (sp + 1) ho uw mo cs en (xx at_.toNatClampNeg) b) := rel_call hR (sv_9 hV h9) (hJ14.weak (by omega)) hlo
    obtain ⟨how1, ma1, rf1, et1, sp1, ho1, mo1, cs1, uw1, wh1, pl1, nu1, en1, hM1, hC1, hw1, h41, hm1, hJ1⟩ := h
    simp only [f_X5_doStep, f_X1_doStep, if_pos hsp, if_neg h0, if_neg h1, if_neg h2, if_neg h3, if_neg h4, if_neg h5, if_neg h6, if_neg h7, if_neg h8, if_pos h9, hM1, hC1]
    exact ⟨how1, ma1, rf1, et1, sp1, ho1, mo1, cs1, uw1, wh1, pl1, nu1, en1, rfl, rfl, hw1, h41, hm1, hJ1⟩
  by_cases h10 : ki at_.toNatClampNeg = 10
  · have h : REL δ th to rn lo ma de si ki aa xx yy (f_X5_add th ma to rn rf et (sp + 1) ho mo cs uw wh lo pl nu de si ki aa xx yy en (pl (xx at_.toNatClampNeg).toNatClampNeg) (aa at_.toNatClampNeg)) (f_X1_doAdd rf ma pl nu de to si ki aa xx yy et (sp + 1) ho uw mo cs en (aa at_.toNatClampNeg) (xx at_.toNatClampNeg)) := rel_add (sm_10 hM h10) (hJ14.weak (by omega))
    obtain ⟨how1, ma1, rf1, et1, sp1, ho1, mo1, cs1, uw1, wh1, pl1, nu1, en1, hM1, hC1, hw1, h41, hm1, hJ1⟩ := h
    simp only [f_X5_doStep, f_X1_doStep, if_pos hsp, if_neg h0, if_neg h1, if_neg h2, if_neg h3, if_neg h4, if_neg h5, if_neg h6, if_neg h7, if_neg h8, if_neg h9, if_pos h10, hM1, hC1]
    exact ⟨how1, ma1, rf1, et1, sp1, ho1, mo1, cs1, uw1, wh1, pl1, nu1, en1, rfl, rfl, hw1, h41, hm1, hJ1⟩
  by_cases h11 : ki at_.toNatClampNeg = 11
  · simp only [f_X5_doStep, f_X1_doStep, if_pos hsp, if_neg h0, if_neg h1, if_neg h2, if_neg h3, if_neg h4, if_neg h5, if_neg h6, if_neg h7, if_neg h8, if_neg h9, if_neg h10, if_pos h11, x_thing (sm_11x hM h11), x_put (sm_11a hM h11)]
    exact ⟨0, ma, rf, et, sp + 1, ho, mo, cs, uw, wh, _, nu, en, rfl, by rw [oc0], by decide, fun e => absurd e (by decide), by omega, J_put (hJ14.weak (by omega)) (sm_11a hM h11) (pl_or hJ14 (sm_11x hM h11))⟩
  by_cases h12 : ki at_.toNatClampNeg = 12
  · have h : REL δ th to rn lo ma de si ki aa xx yy _ (f_X1_doNew rf ma pl nu de to si ki aa xx yy et (sp + 1) ho uw mo cs en (aa at_.toNatClampNeg)) := rel_new (th := th) (rn := rn) (wh := wh) (lo := lo) (sm_12 hM h12) (hJ14.weak (by omega))
    by_cases q : ma = 60
    · rw [if_pos q] at h
      obtain ⟨how1, ma1, rf1, et1, sp1, ho1, mo1, cs1, uw1, wh1, pl1, nu1, en1, hM1, hC1, hw1, h41, hm1, hJ1⟩ := h
      simp only [f_X5_doStep, f_X1_doStep, if_pos hsp, if_neg h0, if_neg h1, if_neg h2, if_neg h3, if_neg h4, if_neg h5, if_neg h6, if_neg h7, if_neg h8, if_neg h9, if_neg h10, if_neg h11, if_pos h12, if_pos q, x_throw, hC1]
      exact ⟨how1, ma1, rf1, et1, sp1, ho1, mo1, cs1, uw1, wh1, pl1, nu1, en1, hM1, rfl, hw1, h41, hm1, hJ1⟩
    · rw [if_neg q] at h
      obtain ⟨how1, ma1, rf1, et1, sp1, ho1, mo1, cs1, uw1, wh1, pl1, nu1, en1, hM1, hC1, hw1, h41, hm1, hJ1⟩ := h
      simp only [x_made (hJ14.weak (by omega) : J δ ma et (sp + 1) pl nu de si ki aa xx yy)] at hM1
      simp only [f_X5_doStep, f_X1_doStep, if_pos hsp, if_neg h0, if_neg h1, if_neg h2, if_neg h3, if_neg h4, if_neg h5, if_neg h6, if_neg h7, if_neg h8, if_neg h9, if_neg h10, if_neg h11, if_pos h12, if_neg q, x_made (hJ14.weak (by omega) : J δ ma et (sp + 1) pl nu de si ki aa xx yy), hC1]
      exact ⟨how1, ma1, rf1, et1, sp1, ho1, mo1, cs1, uw1, wh1, pl1, nu1, en1, hM1, rfl, hw1, h41, hm1, hJ1⟩
  by_cases h13 : ki at_.toNatClampNeg = 13
  · simp only [f_X5_doStep, f_X1_doStep, if_pos hsp, if_neg h0, if_neg h1, if_neg h2, if_neg h3, if_neg h4, if_neg h5, if_neg h6, if_neg h7, if_neg h8, if_neg h9, if_neg h10, if_neg h11, if_neg h12, if_pos h13, x_put (sm_13 hM h13)]
    exact ⟨0, ma, rf, et, sp + 1, ho, mo, cs, uw, wh, _, nu, en, rfl, by rw [oc0], by decide, fun e => absurd e (by decide), by omega, J_put (hJ14.weak (by omega)) (sm_13 hM h13) (Or.inl cm1)⟩
  have h14 : ki at_.toNatClampNeg = 14 := by
    have hk := sm_k hM
    apply eqi
    rw [show (14 : Int32).toInt = 14 by decide]
    have n0 := ne_ti (k := 0) (n := 0) h0 (by decide)
    have n1 := ne_ti (k := 1) (n := 1) h1 (by decide)
    have n2 := ne_ti (k := 2) (n := 2) h2 (by decide)
    have n3 := ne_ti (k := 3) (n := 3) h3 (by decide)
    have n4 := ne_ti (k := 4) (n := 4) h4 (by decide)
    have n5 := ne_ti (k := 5) (n := 5) h5 (by decide)
    have n6 := ne_ti (k := 6) (n := 6) h6 (by decide)
    have n7 := ne_ti (k := 7) (n := 7) h7 (by decide)
    have n8 := ne_ti (k := 8) (n := 8) h8 (by decide)
    have n9 := ne_ti (k := 9) (n := 9) h9 (by decide)
    have n10 := ne_ti (k := 10) (n := 10) h10 (by decide)
    have n11 := ne_ti (k := 11) (n := 11) h11 (by decide)
    have n12 := ne_ti (k := 12) (n := 12) h12 (by decide)
    have n13 := ne_ti (k := 13) (n := 13) h13 (by decide)
    omega
  obtain ⟨et', ho', mo', en', hM1, hC1, hJ1⟩ := rel_sweep (δ := δ) (th := th) (to := to) (rn := rn) (rf := rf) (ho := ho) (mo := mo) (cs := cs) (uw := uw) (wh := wh) (lo := lo) (en := en) (a := aa at_.toNatClampNeg) hJ14
  simp only [f_X5_doStep, f_X1_doStep, if_pos hsp, if_neg h0, if_neg h1, if_neg h2, if_neg h3, if_neg h4, if_neg h5, if_neg h6, if_neg h7, if_neg h8, if_neg h9, if_neg h10, if_neg h11, if_neg h12, if_neg h13, if_pos h14, hM1, hC1]
  exact ⟨0, ma, rf, et', sp + 1, ho', mo', cs, uw, wh, pl, nu, en', rfl, by rw [oc0], by decide, fun e => absurd e (by decide), by omega, hJ1⟩
theorem bl_end {n : Nat} {b ab il z r k : Int32} (h : ¬ r = 0) : L_X1_doBlock_36 rc (n + 1) b ab il z r k rf ma pl nu de to si ki aa xx yy et sp ho uw mo cs en = (r, rf, ma, pl, nu, de, to, si, ki, aa, xx, yy, et, sp, ho, uw, mo, cs, en) := by
  simp only [L_X1_doBlock_36, if_neg h]
  split <;> rfl
theorem rel_blk (hR : RR d rm rc) {b ab il : Int32} (hB : HB4 (d + 1) b ab) (hlo : LO (d + 1) lo) (hil : il = 0 ↔ lo ≤ 0) : ∀ (n k : Nat) (how ma rf et sp ho mo cs uw wh : Int32) (pl nu en : Nat → Int32), k ≤ 12 → 12 < k + n → (0 ≤ how.toInt ∧ how.toInt ≤ 5) → (how = 4 → 1 ≤ wh.toInt ∧ wh.toInt ≤ 13) → J δ ma et sp pl nu de si ki aa xx yy → REL δ th to rn lo ma de si ki aa xx yy (L_X5_block_4 rm n b how (nI k) th ma to rn rf et sp ho mo cs uw wh lo pl nu de si ki aa xx yy en) (L_X1_doBlock_36 rc n b ab il (if 12 < si b.toNatClampNeg then 12 else si b.toNatClampNeg) (oc how wh) (nI k) rf ma pl nu de to si ki aa xx yy et sp ho uw mo cs en) := by
  intro n
  induction n with
  | zero =>
    intro k how ma rf et sp ho mo cs uw wh pl nu en h1 h2
    exact absurd h2 (by omega)
  | succ n ih =>
    intro k how ma rf et sp ho mo cs uw wh pl nu en h1 h2 hw h4 hJ
    obtain ⟨j, j1, j2, j3⟩ := vpn (hb_in hB)
    have hsz : (if 12 < si b.toNatClampNeg then 12 else si b.toNatClampNeg : Int32) = si b.toNatClampNeg := if_neg (by rw [Int32.lt_iff_toInt_lt, c12, j3]; have := (hJ.pv j j1).1; omega)
    simp only [L_X5_block_4, L_X1_doBlock_36]
    by_cases q : si b.toNatClampNeg ≤ nI k
    · have q' : (if 12 < si b.toNatClampNeg then 12 else si b.toNatClampNeg : Int32) ≤ nI k := by rw [hsz]; exact q
      simp only [if_pos q, if_pos q']
      exact ⟨how, ma, rf, et, sp, ho, mo, cs, uw, wh, pl, nu, en, rfl, rfl, hw, h4, by omega, hJ⟩
    · have q' : ¬ (if 12 < si b.toNatClampNeg then 12 else si b.toNatClampNeg : Int32) ≤ nI k := by rw [hsz]; exact q
      simp only [if_neg q, if_neg q']
      by_cases q0 : how = 0
      · simp only [if_pos q0, if_pos ((oc_eq h4 (by decide) (by decide)).mpr q0)]
        have hV : SV d b (b * 12 + nI k) ki aa xx yy := sv_of hB rfl rfl rfl (by omega) rfl q' hJ
        have hk12 : k < 12 := lt_nI12 (by omega) rfl rfl q'
        have nk : nI k + 1 = nI (k + 1) := nI_1 k
        by_cases qs : sp = 300
        · have ns : ¬ sp < 300 := by rw [qs]; decide
          obtain ⟨n', rfl⟩ : ∃ n', n = n' + 1 := ⟨n - 1, by omega⟩
          simp only [if_pos qs, f_X1_doStep, if_neg ns, bl_end (show ¬ (5 : Int32) = 0 by decide)]
          exact ⟨5, ma, rf, et, sp, ho, mo, cs, uw, wh, pl, nu, en, rfl, by rw [oc5], by decide, fun e => absurd e (by decide), by omega, hJ⟩
        · have h : REL δ th to rn lo ma de si ki aa xx yy (f_X5_doStep rm th ma to rn rf et (sp + 1) ho mo cs uw wh lo pl nu de si ki aa xx yy en (12 * b + nI k)) (f_X1_doStep rc rf ma pl nu de to si ki aa xx yy et sp ho uw mo cs en b (b * 12 + nI k) il) := by
            have := rel_step (th := th) (to := to) (rn := rn) (rf := rf) (ho := ho) (mo := mo) (cs := cs) (uw := uw) (wh := wh) (en := en) hR hV hJ (sp_lt hJ qs) hlo hil
            rw [show 12 * b + nI k = b * 12 + nI k by rw [Int32.mul_comm]]
            exact this
          obtain ⟨how1, ma1, rf1, et1, sp1, ho1, mo1, cs1, uw1, wh1, pl1, nu1, en1, hM1, hC1, hw1, h41, hm1, hJ1⟩ := h
          simp only [if_neg qs, hM1, hC1, nk]
          exact (ih (k + 1) how1 ma1 rf1 et1 sp1 ho1 mo1 cs1 uw1 wh1 pl1 nu1 en1 (by omega) (by omega) hw1 h41 hJ1).mono hm1 (Nat.le_refl _)
      · simp only [if_neg q0, if_neg (fun e => q0 ((oc_eq h4 (by decide) (by decide)).mp e))]
        exact ⟨how, ma, rf, et, sp, ho, mo, cs, uw, wh, pl, nu, en, rfl, rfl, hw, h4, by omega, hJ⟩
end SIM
theorem is_block {x : Int32} (h : vp_in x 40) : ¬ f_X4_isBlock x = 0 := by
  rw [vp_in_iff] at h
  unfold f_X4_isBlock f_X4_isWithin
  rw [if_neg (by rw [Int32.lt_iff_toInt_lt, c0]; omega), if_neg (by rw [Int32.lt_iff_toInt_lt, show (39 : Int32).toInt = 39 by decide]; omega)]
  decide
theorem rel_block {d : Nat} {rm : TRM} {rc : TRC} (hR : RR d rm rc) : RR (d + 1) (f_X5_block rm) (f_X1_doBlock rc) := by
  intro δ th ma to rn rf et sp ho mo cs uw wh lo pl nu de si ki aa xx yy en b ab il hB hJ hlo hil
  have hp : ab < b := by rw [Int32.lt_iff_toInt_lt]; exact hB.2.2.1
  simp only [f_X5_block, f_X1_doBlock, if_neg (is_block (hb_in hB)), if_pos hp]
  have := rel_blk (th := th) (to := to) (rn := rn) hR hB hlo hil 13 0 0 ma rf et sp ho mo cs uw wh pl nu en (by omega) (by omega) (by decide) (fun e => absurd e (by decide)) hJ
  rw [nI_0, oc0] at this
  exact this
theorem RR_all : ∀ d, RR d (blkM d) (blkC d) := by
  intro d
  induction d with
  | zero =>
    intro δ th ma to rn rf et sp ho mo cs uw wh lo pl nu de si ki aa xx yy en b ab il hB
    exact absurd hB (by rintro ⟨h1, h2, h3, h4, -⟩; omega)
  | succ d ih => exact rel_block ih
end
section
section COR
variable  {rf ma to et sp ho uw mo cs : Int32} {pl nu de si ki aa xx yy en : Nat → Int32} {rf' ma' to' et' sp' ho' uw' mo' cs' : Int32} {pl' nu' de' si' ki' aa' xx' yy' en' : Nat → Int32}
theorem begin_me {t : Int32} (h : (rf', ma', pl', nu', de', to', si', ki', aa', xx', yy', et', sp', ho', uw', mo', cs', en') = f_X1_beginHold rf ma pl nu de to si ki aa xx yy et sp ho uw mo cs en t) : ma' = ma ∧ et' = et + 1 := by
  simp only [f_X1_beginHold, f_X2_deepen, f_X3_enterBegun, x_enter] at h
  by_cases q : f_X2_isThing ma pl nu de t = 0
  · simp only [if_pos q, Prod.mk.injEq] at h
    exact ⟨h.2.1, h.2.2.2.2.2.2.2.2.2.2.2.1⟩
  · simp only [if_neg q, Prod.mk.injEq] at h
    exact ⟨h.2.1, h.2.2.2.2.2.2.2.2.2.2.2.1⟩
theorem leave_me {t how : Int32} (h : (rf', ma', pl', nu', de', to', si', ki', aa', xx', yy', et', sp', ho', uw', mo', cs', en') = f_X1_leaveHold rf ma pl nu de to si ki aa xx yy et sp ho uw mo cs en t how) : ma' = ma ∧ et' = et + 1 := by
  simp only [f_X1_leaveHold, f_X2_deepen, f_X3_enterLeft, x_enter] at h
  by_cases q : f_X2_isThing ma pl nu de t = 0 <;> by_cases q4 : how = 4 <;> by_cases q5 : how = 5 <;>
    (simp only [q, q4, q5, if_true, if_false, Prod.mk.injEq] at h
     exact ⟨h.2.1, h.2.2.2.2.2.2.2.2.2.2.2.1⟩)
theorem JC_begin {p0 : Int32} (hJ : J 14 ma et sp pl nu de si ki aa xx yy) (hn : ¬ f_X2_thingIn ma pl nu de p0 = (-1)) (h : (rf', ma', pl', nu', de', to', si', ki', aa', xx', yy', et', sp', ho', uw', mo', cs', en') = f_X1_beginHold rf ma pl nu de to si ki aa xx yy et sp ho uw mo cs en (f_X2_thingIn ma pl nu de p0)) : J 0 ma' et' sp' pl' nu' de' si' ki' aa' xx' yy' := by
  have hp : vp_in p0 6 := in_place (fun e => hn (by unfold f_X2_thingIn; rw [if_pos e]))
  rw [x_thing hp] at h hn
  have ht := pl_ok hJ hp hn
  rw [x_cbegin ht] at h
  simp only [Prod.mk.injEq] at h
  obtain ⟨rfl, rfl, rfl, rfl, rfl, rfl, rfl, rfl, rfl, rfl, rfl, rfl, rfl, rfl, rfl, rfl, rfl, rfl⟩ := h
  exact (J_begin (δ := 0) hJ ht).weak (by omega)
theorem JC_blk (d : Nat) {p0 p1 p2 r : Int32} (hB : HB4 d p0 p1) (hJ : J 0 ma et sp pl nu de si ki aa xx yy) (h : (r, rf', ma', pl', nu', de', to', si', ki', aa', xx', yy', et', sp', ho', uw', mo', cs', en') = blkC d rf ma pl nu de to si ki aa xx yy et sp ho uw mo cs en p0 p1 p2) : J 0 ma' et' sp' pl' nu' de' si' ki' aa' xx' yy' ∧ si' = si := by
  have hd := hB.2.2.2.2
  obtain ⟨lo, hlo, hil⟩ : ∃ lo : Int32, LO d lo ∧ (p2 = 0 ↔ lo ≤ 0) := by
    by_cases q : p2 = 0
    · exact ⟨0, ⟨by decide, by rw [c0]; omega, hd⟩, fun _ => by decide, fun _ => q⟩
    · exact ⟨1, ⟨by decide, by rw [c1]; omega, hd⟩, fun e => absurd e q, fun e => absurd e (by decide)⟩
  obtain ⟨how1, ma1, rf1, et1, sp1, ho1, mo1, cs1, uw1, wh1, pl1, nu1, en1, hM1, hC1, hw1, h41, hm1, hJ1⟩ := RR_all d 0 0 ma to 0 rf et sp ho mo cs uw 0 lo pl nu de si ki aa xx yy en p0 p1 p2 hB hJ hlo hil
  rw [hC1] at h
  simp only [Prod.mk.injEq] at h
  obtain ⟨-, rfl, rfl, rfl, rfl, rfl, rfl, rfl, rfl, rfl, rfl, rfl, rfl, rfl, rfl, rfl, rfl, rfl, rfl⟩ := h
  exact ⟨hJ1, rfl⟩
theorem JC_step (d : Nat) {p0 p1 p2 r : Int32} (hV : SV d p0 p1 ki aa xx yy) (hJ : J 0 ma et sp pl nu de si ki aa xx yy) (h : (r, rf', ma', pl', nu', de', to', si', ki', aa', xx', yy', et', sp', ho', uw', mo', cs', en') = f_X1_doStep (blkC d) rf ma pl nu de to si ki aa xx yy et sp ho uw mo cs en p0 p1 p2) : J 0 ma' et' sp' pl' nu' de' si' ki' aa' xx' yy' ∧ si' = si := by
  have hd := hV.d60
  by_cases hs : sp < 300
  · obtain ⟨lo, hlo, hil⟩ : ∃ lo : Int32, LO (d + 1) lo ∧ (p2 = 0 ↔ lo ≤ 0) := by
      by_cases q : p2 = 0
      · exact ⟨0, ⟨by decide, by rw [c0]; omega, by omega⟩, fun _ => by decide, fun _ => q⟩
      · exact ⟨1, ⟨by decide, by rw [c1]; omega, by omega⟩, fun e => absurd e q, fun e => absurd e (by decide)⟩
    have hs2 : sp.toInt < 300 := by rw [Int32.lt_iff_toInt_lt, c300] at hs; exact hs
    obtain ⟨how1, ma1, rf1, et1, sp1, ho1, mo1, cs1, uw1, wh1, pl1, nu1, en1, hM1, hC1, hw1, h41, hm1, hJ1⟩ := rel_step (δ := 0) (th := 0) (to := to) (rn := 0) (rf := rf) (ho := ho) (mo := mo) (cs := cs) (uw := uw) (wh := 0) (en := en) (RR_all d) hV hJ hs2 hlo hil
    rw [hC1] at h
    simp only [Prod.mk.injEq] at h
    obtain ⟨-, rfl, rfl, rfl, rfl, rfl, rfl, rfl, rfl, rfl, rfl, rfl, rfl, rfl, rfl, rfl, rfl, rfl, rfl⟩ := h
    exact ⟨hJ1, rfl⟩
  · simp only [f_X1_doStep, if_neg hs, Prod.mk.injEq] at h
    obtain ⟨-, rfl, rfl, rfl, rfl, rfl, rfl, rfl, rfl, rfl, rfl, rfl, rfl, rfl, rfl, rfl, rfl, rfl, rfl⟩ := h
    exact ⟨hJ, rfl⟩
end COR
section COM
variable  {th ma to rn rf et sp ho mo cs uw wh lo : Int32} {pl nu de si ki aa xx yy en : Nat → Int32} {th' ma' to' rn' rf' et' sp' ho' mo' cs' uw' wh' lo' : Int32} {pl' nu' de' si' ki' aa' xx' yy' en' : Nat → Int32}
theorem begin_mm {t : Int32} (h : (th', ma', to', rn', rf', et', sp', ho', mo', cs', uw', wh', lo', pl', nu', de', si', ki', aa', xx', yy', en') = f_X5_begin th ma to rn rf et sp ho mo cs uw wh lo pl nu de si ki aa xx yy en t) : pl' = pl ∧ et' = et + 1 := by
  simp only [x_begin, Prod.mk.injEq] at h
  exact ⟨h.2.2.2.2.2.2.2.2.2.2.2.2.2.1, h.2.2.2.2.2.1⟩
theorem leave_mm {t how : Int32} (h : (th', ma', to', rn', rf', et', sp', ho', mo', cs', uw', wh', lo', pl', nu', de', si', ki', aa', xx', yy', en') = f_X5_leave th ma to rn rf et sp ho mo cs uw wh lo pl nu de si ki aa xx yy en t how) : pl' = pl ∧ et' = et + 1 := by
  simp only [x_leave, Prod.mk.injEq] at h
  exact ⟨h.2.2.2.2.2.2.2.2.2.2.2.2.2.1, h.2.2.2.2.2.1⟩
theorem JM_begin {t : Int32} (hJ : J 14 ma et sp pl nu de si ki aa xx yy) (ht : 0 ≤ t.toInt ∧ t.toInt < ma.toInt) (h : (th', ma', to', rn', rf', et', sp', ho', mo', cs', uw', wh', lo', pl', nu', de', si', ki', aa', xx', yy', en') = f_X5_begin th ma to rn rf et sp ho mo cs uw wh lo pl nu de si ki aa xx yy en t) : J 0 ma' et' sp' pl' nu' de' si' ki' aa' xx' yy' ∧ lo' = lo := by
  simp only [x_begin, Prod.mk.injEq] at h
  obtain ⟨rfl, rfl, rfl, rfl, rfl, rfl, rfl, rfl, rfl, rfl, rfl, rfl, rfl, rfl, rfl, rfl, rfl, rfl, rfl, rfl, rfl, rfl⟩ := h
  exact ⟨(J_begin (δ := 0) hJ ht).weak (by omega), rfl⟩
theorem JM_blk (d : Nat) {p0 r : Int32} (hB : HM d p0) (hJ : J 0 ma et sp pl nu de si ki aa xx yy) (hlo : LO d lo) (h : (r, th', ma', to', rn', rf', et', sp', ho', mo', cs', uw', wh', lo', pl', nu', de', si', ki', aa', xx', yy', en') = blkM d th ma to rn rf et sp ho mo cs uw wh lo pl nu de si ki aa xx yy en p0) : J 0 ma' et' sp' pl' nu' de' si' ki' aa' xx' yy' ∧ lo' = lo ∧ True := by
  obtain ⟨il, hil⟩ : ∃ il : Int32, il = 0 ↔ lo ≤ 0 := by
    by_cases q : lo ≤ 0
    · exact ⟨0, fun _ => q, fun _ => rfl⟩
    · exact ⟨1, fun e => absurd e (by decide), fun e => absurd e q⟩
  obtain ⟨how1, ma1, rf1, et1, sp1, ho1, mo1, cs1, uw1, wh1, pl1, nu1, en1, hM1, hC1, hw1, h41, hm1, hJ1⟩ := RR_all d 0 th ma to rn rf et sp ho mo cs uw wh lo pl nu de si ki aa xx yy en p0 (-1) il ⟨hB.1, hB.2.1, by rw [cm1]; have := hB.1; omega, hB.2.2, hlo.2.2⟩ hJ hlo hil
  rw [hM1] at h
  simp only [Prod.mk.injEq] at h
  obtain ⟨-, rfl, rfl, rfl, rfl, rfl, rfl, rfl, rfl, rfl, rfl, rfl, rfl, rfl, rfl, rfl, rfl, rfl, rfl, rfl, rfl, rfl, rfl⟩ := h
  exact ⟨hJ1, rfl, trivial⟩
theorem JM_step (d : Nat) {p0 r : Int32} (hV : SM d p0 ki aa xx yy) (hJ : J 0 ma et sp pl nu de si ki aa xx yy) (hs : ¬ sp = 300) (hlo : LO (d + 1) lo) (h : (r, th', ma', to', rn', rf', et', sp', ho', mo', cs', uw', wh', lo', pl', nu', de', si', ki', aa', xx', yy', en') = f_X5_doStep (blkM d) th ma to rn rf et (sp + 1) ho mo cs uw wh lo pl nu de si ki aa xx yy en p0) : J 0 ma' et' sp' pl' nu' de' si' ki' aa' xx' yy' ∧ lo' = lo := by
  obtain ⟨il, hil⟩ : ∃ il : Int32, il = 0 ↔ lo ≤ 0 := by
    by_cases q : lo ≤ 0
    · exact ⟨0, fun _ => q, fun _ => rfl⟩
    · exact ⟨1, fun e => absurd e (by decide), fun e => absurd e q⟩
  obtain ⟨b, k, v1, v2, v3, v4, v5⟩ := hV
  have hV : SV d (nI b) p0 ki aa xx yy := ⟨b, k, v1, v2, v3, v4, v5, rfl, by have := hlo.2.2; omega⟩
  obtain ⟨how1, ma1, rf1, et1, sp1, ho1, mo1, cs1, uw1, wh1, pl1, nu1, en1, hM1, hC1, hw1, h41, hm1, hJ1⟩ := rel_step (δ := 0) (th := th) (to := to) (rn := rn) (rf := rf) (ho := ho) (mo := mo) (cs := cs) (uw := uw) (wh := wh) (en := en) (RR_all d) hV hJ (sp_lt hJ hs) hlo hil
  rw [hM1] at h
  simp only [Prod.mk.injEq] at h
  obtain ⟨-, rfl, rfl, rfl, rfl, rfl, rfl, rfl, rfl, rfl, rfl, rfl, rfl, rfl, rfl, rfl, rfl, rfl, rfl, rfl, rfl, rfl, rfl⟩ := h
  exact ⟨hJ1, rfl⟩
end COM
end
section
set_option maxHeartbeats 4000000 in
set_option maxRecDepth 100000 in
theorem c_X1_beginHold (l : Launch) (dC : Nat → ClassId) (dI : Nat → Nat → Nat) (cA : ClassId) (q1 q2 q2a q2b q2c q0 q0a q0b q0c q0d q0e q3 q3a : Nat) (sz : Nat) (rf : Int32) (ma : Int32) (pl : Nat → Int32) (nu : Nat → Int32) (de : Nat → Int32) (to : Int32) (si : Nat → Int32) (ki : Nat → Int32) (aa : Nat → Int32) (xx : Nat → Int32) (yy : Nat → Int32) (et : Int32) (sp : Int32) (ho : Int32) (uw : Int32) (mo : Int32) (cs : Int32) (en : Nat → Int32) (p0 : Int32) (hma : ma.toInt ≤ 60) (het : 0 ≤ et.toInt) : Met l yX1_beginHold wsX1_beginHold ({ frames := 2, cells := 0, slots := 0, locals := 43 }) (pcW (dC, dI) [(q1, .inr (1, [.ref q2, .ref q0, .ref q3, .int rf])), (q2, .inr (2, [.ref q2a, .ref q2b, .ref q2c, .int ma])), (q2a, .inl (cA, 6, .inl pl)), (q2b, .inl (cA, 60, .inl nu)), (q2c, .inl (cA, 60, .inl de)), (q0, .inr (0, [.ref q0a, .ref q0b, .ref q0c, .ref q0d, .ref q0e, .int to])), (q0a, .inl (cA, 40, .inl si)), (q0b, .inl (cA, 480, .inl ki)), (q0c, .inl (cA, 480, .inl aa)), (q0d, .inl (cA, 480, .inl xx)), (q0e, .inl (cA, 480, .inl yy)), (q3, .inr (3, [.ref q3a, .int et, .int sp, .int ho, .int uw, .int mo, .int cs])), (q3a, .inl (cA, 250, .inl en))] [(cA, .int)] sz [.ref q1, .int p0]) (QWv (dC, dI) (f_X1_beginHold rf ma pl nu de to si ki aa xx yy et sp ho uw mo cs en p0) (wd_ru cA q1 q2 q2a q2b q2c q0 q0a q0b q0c q0d q0e q3 q3a) (va_A [(q1, .inr (1, [.ref q2, .ref q0, .ref q3, .int rf])), (q2, .inr (2, [.ref q2a, .ref q2b, .ref q2c, .int ma])), (q2a, .inl (cA, 6, .inl pl)), (q2b, .inl (cA, 60, .inl nu)), (q2c, .inl (cA, 60, .inl de)), (q0, .inr (0, [.ref q0a, .ref q0b, .ref q0c, .ref q0d, .ref q0e, .int to])), (q0a, .inl (cA, 40, .inl si)), (q0b, .inl (cA, 480, .inl ki)), (q0c, .inl (cA, 480, .inl aa)), (q0d, .inl (cA, 480, .inl xx)), (q0e, .inl (cA, 480, .inl yy)), (q3, .inr (3, [.ref q3a, .int et, .int sp, .int ho, .int uw, .int mo, .int cs])), (q3a, .inl (cA, 250, .inl en))] sz)) 0 0 (va_A [(q1, .inr (1, [.ref q2, .ref q0, .ref q3, .int rf])), (q2, .inr (2, [.ref q2a, .ref q2b, .ref q2c, .int ma])), (q2a, .inl (cA, 6, .inl pl)), (q2b, .inl (cA, 60, .inl nu)), (q2c, .inl (cA, 60, .inl de)), (q0, .inr (0, [.ref q0a, .ref q0b, .ref q0c, .ref q0d, .ref q0e, .int to])), (q0a, .inl (cA, 40, .inl si)), (q0b, .inl (cA, 480, .inl ki)), (q0c, .inl (cA, 480, .inl aa)), (q0d, .inl (cA, 480, .inl xx)), (q0e, .inl (cA, 480, .inl yy)), (q3, .inr (3, [.ref q3a, .int et, .int sp, .int ho, .int uw, .int mo, .int cs])), (q3a, .inl (cA, 250, .inl en))] sz) := by
  refine Met.ofW (cc := cX1_beginHold) (maxL := 2) (ret := none) (by decide) rfl ?_
  intro p e s m args below meth c s₁ B hml hv
  obtain ⟨rfl, hsz, hN, hP, hK, hD0⟩ := hv
  have hx := B.exec
  have hb := B.bytes
  have hr := B.returns
  have hts := atoms_spec (ws := wsX1_beginHold) B.pre
  have hown : s.vm.findClass RX1 = some m.cls := findClass_of_methodNamed B.named
  have hlocks := B.notSynchronized
  subst hsz
  have hD := hD0.self (sz := s.heap.size)
  generalize hAe : va_A [(q1, .inr (1, [.ref q2, .ref q0, .ref q3, .int rf])), (q2, .inr (2, [.ref q2a, .ref q2b, .ref q2c, .int ma])), (q2a, .inl (cA, 6, .inl pl)), (q2b, .inl (cA, 60, .inl nu)), (q2c, .inl (cA, 60, .inl de)), (q0, .inr (0, [.ref q0a, .ref q0b, .ref q0c, .ref q0d, .ref q0e, .int to])), (q0a, .inl (cA, 40, .inl si)), (q0b, .inl (cA, 480, .inl ki)), (q0c, .inl (cA, 480, .inl aa)), (q0d, .inl (cA, 480, .inl xx)), (q0e, .inl (cA, 480, .inl yy)), (q3, .inr (3, [.ref q3a, .int et, .int sp, .int ho, .int uw, .int mo, .int cs])), (q3a, .inl (cA, 250, .inl en))] s.heap.size = A at hD ⊢
  have hA : ∀ q : Nat, s.heap.size ≤ q → A q := fun q h => by rw [← hAe]; exact Or.inr h
  have hS : va_S A s.heap s.heap [] := va_S.rf
  have hl := lv_entry ([.ref q1, .int p0]) (n := 2) (Nat.le_of_ble_eq_true rfl)
  rw [lg_entry_eq]
  generalize (lg_sl ([.ref q1, .int p0]) ++ List.replicate (2 - (lg_sl ([.ref q1, .int p0])).length) Slot.unset).toArray = ls at hl ⊢
  have hl : lv_has ls 2 [(0, .ref q1), (1, .int p0)] := hl
  refine lv_aload_n hx hb dX1_beginHold_0 rfl (lv_at hl 0 rfl) ?_
  refine va_get (D := (dC, dI)) (ci := 1) (v := .ref q2) (C := RX1) (T := TX1) (N := 4) hx hb hts (by decide +kernel) hown hK hP 0 rfl rfl 0 (by decide) (hts (.fieldLink RX1 9 RX1 "shelf" "LHoldBench$Shelf;") (by decide +kernel)) (fun _ h9 => h9) rfl dX1_beginHold_1 ?_
  refine lv_iload_n hx hb dX1_beginHold_4 rfl (lv_at hl 1 rfl) ?_
  refine lv_iconst (v := 1) hx hb dX1_beginHold_5 (by decide) ?_
  refine kx_wv (wr := [(q1, .inr (1, [.ref q2, .ref q0, .ref q3, .int rf])), (q0, .inr (0, [.ref q0a, .ref q0b, .ref q0c, .ref q0d, .ref q0e, .int to])), (q0a, .inl (cA, 40, .inl si)), (q0b, .inl (cA, 480, .inl ki)), (q0c, .inl (cA, 480, .inl aa)), (q0d, .inl (cA, 480, .inl xx)), (q0e, .inl (cA, 480, .inl yy)), (q3, .inr (3, [.ref q3a, .int et, .int sp, .int ho, .int uw, .int mo, .int cs])), (q3a, .inl (cA, 250, .inl en))]) hP hD hS hA [1, 2, 3, 4] [0, 5, 6, 7, 8, 9, 10, 11, 12] rfl rfl (by decide) (by decide) (va_runVN (As := [.int p0, .int 1]) (rest := []) ⟨hx, hb, hml, hown, hts⟩ (c_X2_deepen l dC dI cA q2 q2a q2b q2c s.heap.size ma pl nu de p0 1 hma) ⟨va_cnB 2 hts gX1_beginHold_X2_deepen_n117 rfl rfl rfl (hN.at 16 rfl) (hts (.initialized RX2) (by decide +kernel)) (by decide +kernel) ⟨(Nat.le_of_ble_eq_true rfl), (Nat.le_of_ble_eq_true rfl)⟩, (hts (.instanceMethod yX2_deepen) (by decide +kernel)), (hts (.selects RX2 yX2_deepen yX2_deepen) (by decide +kernel))⟩ (pW hN (hP.sub (ws' := [(q2, .inr (2, [.ref q2a, .ref q2b, .ref q2c, .int ma])), (q2a, .inl (cA, 6, .inl pl)), (q2b, .inl (cA, 60, .inl nu)), (q2c, .inl (cA, 60, .inl de))]) [1, 2, 3, 4] rfl) hK (hD.sub (ws' := [(q2, .inr (2, [.ref q2a, .ref q2b, .ref q2c, .int ma])), (q2a, .inl (cA, 6, .inl pl)), (q2b, .inl (cA, 60, .inl nu)), (q2c, .inl (cA, 60, .inl de))]) [1, 2, 3, 4] (by decide) rfl) (ci := 2) (q0 := 0) rfl rfl rfl) rfl rfl hl.1 rfl (lv_room (Nat.le_of_ble_eq_true rfl)) dX1_beginHold_6 ⟨Nat.zero_le _, Nat.zero_le _⟩) (fun u_1 H locs hw_1 hP hD hS => ?_)
  obtain ⟨ma_1, pl_1, nu_1, de_1⟩ := u_1
  have hP : va_P (dC, dI) vwCl [(q1, .inr (1, [.ref q2, .ref q0, .ref q3, .int rf])), (q2, .inr (2, [.ref q2a, .ref q2b, .ref q2c, .int ma_1])), (q2a, .inl (cA, 6, .inl pl_1)), (q2b, .inl (cA, 60, .inl nu_1)), (q2c, .inl (cA, 60, .inl de_1)), (q0, .inr (0, [.ref q0a, .ref q0b, .ref q0c, .ref q0d, .ref q0e, .int to])), (q0a, .inl (cA, 40, .inl si)), (q0b, .inl (cA, 480, .inl ki)), (q0c, .inl (cA, 480, .inl aa)), (q0d, .inl (cA, 480, .inl xx)), (q0e, .inl (cA, 480, .inl yy)), (q3, .inr (3, [.ref q3a, .int et, .int sp, .int ho, .int uw, .int mo, .int cs])), (q3a, .inl (cA, 250, .inl en))] H := hP.sub [0, 9, 10, 11, 12, 1, 2, 3, 4, 5, 6, 7, 8] rfl
  have hD : va_D A [(q1, .inr (1, [.ref q2, .ref q0, .ref q3, .int rf])), (q2, .inr (2, [.ref q2a, .ref q2b, .ref q2c, .int ma_1])), (q2a, .inl (cA, 6, .inl pl_1)), (q2b, .inl (cA, 60, .inl nu_1)), (q2c, .inl (cA, 60, .inl de_1)), (q0, .inr (0, [.ref q0a, .ref q0b, .ref q0c, .ref q0d, .ref q0e, .int to])), (q0a, .inl (cA, 40, .inl si)), (q0b, .inl (cA, 480, .inl ki)), (q0c, .inl (cA, 480, .inl aa)), (q0d, .inl (cA, 480, .inl xx)), (q0e, .inl (cA, 480, .inl yy)), (q3, .inr (3, [.ref q3a, .int et, .int sp, .int ho, .int uw, .int mo, .int cs])), (q3a, .inl (cA, 250, .inl en))] := hD.sub [0, 9, 10, 11, 12, 1, 2, 3, 4, 5, 6, 7, 8] (by decide) rfl
  refine lv_aload_n hx hb dX1_beginHold_9 rfl (lv_at hl 0 rfl) ?_
  refine va_get (D := (dC, dI)) (ci := 1) (v := .ref q3) (C := RX1) (T := TX1) (N := 4) hx hb hts (by decide +kernel) hown hK hP 0 rfl rfl 2 (by decide) (hts (.fieldLink RX1 19 RX1 "tally" "LHoldBench$Tally;") (by decide +kernel)) (fun _ h9 => h9) rfl dX1_beginHold_10 ?_
  refine lv_iload_n hx hb dX1_beginHold_13 rfl (lv_at hl 1 rfl) ?_
  refine kx_wv (wr := [(q1, .inr (1, [.ref q2, .ref q0, .ref q3, .int rf])), (q2, .inr (2, [.ref q2a, .ref q2b, .ref q2c, .int ma_1])), (q2a, .inl (cA, 6, .inl pl_1)), (q2b, .inl (cA, 60, .inl nu_1)), (q2c, .inl (cA, 60, .inl de_1)), (q0, .inr (0, [.ref q0a, .ref q0b, .ref q0c, .ref q0d, .ref q0e, .int to])), (q0a, .inl (cA, 40, .inl si)), (q0b, .inl (cA, 480, .inl ki)), (q0c, .inl (cA, 480, .inl aa)), (q0d, .inl (cA, 480, .inl xx)), (q0e, .inl (cA, 480, .inl yy))]) hP hD hS hA [11, 12] [0, 1, 2, 3, 4, 5, 6, 7, 8, 9, 10] rfl rfl (by decide) (by decide) (va_runVN (As := [.int p0]) (rest := []) ⟨hx, hb, hml, hown, hts⟩ (c_X3_enterBegun l dC dI cA q3 q3a H.size et sp ho uw mo cs en p0 het) ⟨va_cnB 1 hts gX1_beginHold_X3_enterBegun_n120 rfl rfl rfl (hN.at 17 rfl) (hts (.initialized RX3) (by decide +kernel)) (by decide +kernel) ⟨(Nat.le_of_ble_eq_true rfl), (Nat.le_of_ble_eq_true rfl)⟩, (hts (.instanceMethod yX3_enterBegun) (by decide +kernel)), (hts (.selects RX3 yX3_enterBegun yX3_enterBegun) (by decide +kernel))⟩ (pW hN (hP.sub (ws' := [(q3, .inr (3, [.ref q3a, .int et, .int sp, .int ho, .int uw, .int mo, .int cs])), (q3a, .inl (cA, 250, .inl en))]) [11, 12] rfl) hK (hD.sub (ws' := [(q3, .inr (3, [.ref q3a, .int et, .int sp, .int ho, .int uw, .int mo, .int cs])), (q3a, .inl (cA, 250, .inl en))]) [11, 12] (by decide) rfl) (ci := 3) (q0 := 0) rfl rfl rfl) rfl rfl hl.1 rfl (lv_room (Nat.le_of_ble_eq_true rfl)) dX1_beginHold_14 ⟨Nat.zero_le _, Nat.zero_le _⟩) (fun u_2 H locs hw_2 hP hD hS => ?_)
  obtain ⟨et_2, sp_2, ho_2, uw_2, mo_2, cs_2, en_2⟩ := u_2
  have hP : va_P (dC, dI) vwCl [(q1, .inr (1, [.ref q2, .ref q0, .ref q3, .int rf])), (q2, .inr (2, [.ref q2a, .ref q2b, .ref q2c, .int ma_1])), (q2a, .inl (cA, 6, .inl pl_1)), (q2b, .inl (cA, 60, .inl nu_1)), (q2c, .inl (cA, 60, .inl de_1)), (q0, .inr (0, [.ref q0a, .ref q0b, .ref q0c, .ref q0d, .ref q0e, .int to])), (q0a, .inl (cA, 40, .inl si)), (q0b, .inl (cA, 480, .inl ki)), (q0c, .inl (cA, 480, .inl aa)), (q0d, .inl (cA, 480, .inl xx)), (q0e, .inl (cA, 480, .inl yy)), (q3, .inr (3, [.ref q3a, .int et_2, .int sp_2, .int ho_2, .int uw_2, .int mo_2, .int cs_2])), (q3a, .inl (cA, 250, .inl en_2))] H := hP
  have hD : va_D A [(q1, .inr (1, [.ref q2, .ref q0, .ref q3, .int rf])), (q2, .inr (2, [.ref q2a, .ref q2b, .ref q2c, .int ma_1])), (q2a, .inl (cA, 6, .inl pl_1)), (q2b, .inl (cA, 60, .inl nu_1)), (q2c, .inl (cA, 60, .inl de_1)), (q0, .inr (0, [.ref q0a, .ref q0b, .ref q0c, .ref q0d, .ref q0e, .int to])), (q0a, .inl (cA, 40, .inl si)), (q0b, .inl (cA, 480, .inl ki)), (q0c, .inl (cA, 480, .inl aa)), (q0d, .inl (cA, 480, .inl xx)), (q0e, .inl (cA, 480, .inl yy)), (q3, .inr (3, [.ref q3a, .int et_2, .int sp_2, .int ho_2, .int uw_2, .int mo_2, .int cs_2])), (q3a, .inl (cA, 250, .inl en_2))] := hD
  exact rt_v hx hb hr hlocks (rf, ma_1, pl_1, nu_1, de_1, to, si, ki, aa, xx, yy, et_2, sp_2, ho_2, uw_2, mo_2, cs_2, en_2) (by simp only [f_X1_beginHold, ← hw_1, ← hw_2]) hP hD hS dX1_beginHold_17
set_option maxHeartbeats 4000000 in
set_option maxRecDepth 100000 in
theorem c_X1_leaveHold (l : Launch) (dC : Nat → ClassId) (dI : Nat → Nat → Nat) (cA : ClassId) (q1 q2 q2a q2b q2c q0 q0a q0b q0c q0d q0e q3 q3a : Nat) (sz : Nat) (rf : Int32) (ma : Int32) (pl : Nat → Int32) (nu : Nat → Int32) (de : Nat → Int32) (to : Int32) (si : Nat → Int32) (ki : Nat → Int32) (aa : Nat → Int32) (xx : Nat → Int32) (yy : Nat → Int32) (et : Int32) (sp : Int32) (ho : Int32) (uw : Int32) (mo : Int32) (cs : Int32) (en : Nat → Int32) (p0 : Int32) (p1 : Int32) (hma : ma.toInt ≤ 60) (het : 0 ≤ et.toInt) : Met l yX1_leaveHold wsX1_leaveHold ({ frames := 2, cells := 0, slots := 0, locals := 43 }) (pcW (dC, dI) [(q1, .inr (1, [.ref q2, .ref q0, .ref q3, .int rf])), (q2, .inr (2, [.ref q2a, .ref q2b, .ref q2c, .int ma])), (q2a, .inl (cA, 6, .inl pl)), (q2b, .inl (cA, 60, .inl nu)), (q2c, .inl (cA, 60, .inl de)), (q0, .inr (0, [.ref q0a, .ref q0b, .ref q0c, .ref q0d, .ref q0e, .int to])), (q0a, .inl (cA, 40, .inl si)), (q0b, .inl (cA, 480, .inl ki)), (q0c, .inl (cA, 480, .inl aa)), (q0d, .inl (cA, 480, .inl xx)), (q0e, .inl (cA, 480, .inl yy)), (q3, .inr (3, [.ref q3a, .int et, .int sp, .int ho, .int uw, .int mo, .int cs])), (q3a, .inl (cA, 250, .inl en))] [(cA, .int)] sz [.ref q1, .int p0, .int p1]) (QWv (dC, dI) (f_X1_leaveHold rf ma pl nu de to si ki aa xx yy et sp ho uw mo cs en p0 p1) (wd_ru cA q1 q2 q2a q2b q2c q0 q0a q0b q0c q0d q0e q3 q3a) (va_A [(q1, .inr (1, [.ref q2, .ref q0, .ref q3, .int rf])), (q2, .inr (2, [.ref q2a, .ref q2b, .ref q2c, .int ma])), (q2a, .inl (cA, 6, .inl pl)), (q2b, .inl (cA, 60, .inl nu)), (q2c, .inl (cA, 60, .inl de)), (q0, .inr (0, [.ref q0a, .ref q0b, .ref q0c, .ref q0d, .ref q0e, .int to])), (q0a, .inl (cA, 40, .inl si)), (q0b, .inl (cA, 480, .inl ki)), (q0c, .inl (cA, 480, .inl aa)), (q0d, .inl (cA, 480, .inl xx)), (q0e, .inl (cA, 480, .inl yy)), (q3, .inr (3, [.ref q3a, .int et, .int sp, .int ho, .int uw, .int mo, .int cs])), (q3a, .inl (cA, 250, .inl en))] sz)) 0 0 (va_A [(q1, .inr (1, [.ref q2, .ref q0, .ref q3, .int rf])), (q2, .inr (2, [.ref q2a, .ref q2b, .ref q2c, .int ma])), (q2a, .inl (cA, 6, .inl pl)), (q2b, .inl (cA, 60, .inl nu)), (q2c, .inl (cA, 60, .inl de)), (q0, .inr (0, [.ref q0a, .ref q0b, .ref q0c, .ref q0d, .ref q0e, .int to])), (q0a, .inl (cA, 40, .inl si)), (q0b, .inl (cA, 480, .inl ki)), (q0c, .inl (cA, 480, .inl aa)), (q0d, .inl (cA, 480, .inl xx)), (q0e, .inl (cA, 480, .inl yy)), (q3, .inr (3, [.ref q3a, .int et, .int sp, .int ho, .int uw, .int mo, .int cs])), (q3a, .inl (cA, 250, .inl en))] sz) := by
  refine Met.ofW (cc := cX1_leaveHold) (maxL := 3) (ret := none) (by decide) rfl ?_
  intro p e s m args below meth c s₁ B hml hv
  obtain ⟨rfl, hsz, hN, hP, hK, hD0⟩ := hv
  have hx := B.exec
  have hb := B.bytes
  have hr := B.returns
  have hts := atoms_spec (ws := wsX1_leaveHold) B.pre
  have hown : s.vm.findClass RX1 = some m.cls := findClass_of_methodNamed B.named
  have hlocks := B.notSynchronized
  subst hsz
  have hD := hD0.self (sz := s.heap.size)
  generalize hAe : va_A [(q1, .inr (1, [.ref q2, .ref q0, .ref q3, .int rf])), (q2, .inr (2, [.ref q2a, .ref q2b, .ref q2c, .int ma])), (q2a, .inl (cA, 6, .inl pl)), (q2b, .inl (cA, 60, .inl nu)), (q2c, .inl (cA, 60, .inl de)), (q0, .inr (0, [.ref q0a, .ref q0b, .ref q0c, .ref q0d, .ref q0e, .int to])), (q0a, .inl (cA, 40, .inl si)), (q0b, .inl (cA, 480, .inl ki)), (q0c, .inl (cA, 480, .inl aa)), (q0d, .inl (cA, 480, .inl xx)), (q0e, .inl (cA, 480, .inl yy)), (q3, .inr (3, [.ref q3a, .int et, .int sp, .int ho, .int uw, .int mo, .int cs])), (q3a, .inl (cA, 250, .inl en))] s.heap.size = A at hD ⊢
  have hA : ∀ q : Nat, s.heap.size ≤ q → A q := fun q h => by rw [← hAe]; exact Or.inr h
  have hS : va_S A s.heap s.heap [] := va_S.rf
  have hl := lv_entry ([.ref q1, .int p0, .int p1]) (n := 3) (Nat.le_of_ble_eq_true rfl)
  rw [lg_entry_eq]
  generalize (lg_sl ([.ref q1, .int p0, .int p1]) ++ List.replicate (3 - (lg_sl ([.ref q1, .int p0, .int p1])).length) Slot.unset).toArray = ls at hl ⊢
  have hl : lv_has ls 3 [(0, .ref q1), (1, .int p0), (2, .int p1)] := hl
  refine lv_aload_n hx hb dX1_leaveHold_0 rfl (lv_at hl 0 rfl) ?_
  refine va_get (D := (dC, dI)) (ci := 1) (v := .ref q2) (C := RX1) (T := TX1) (N := 4) hx hb hts (by decide +kernel) hown hK hP 0 rfl rfl 0 (by decide) (hts (.fieldLink RX1 9 RX1 "shelf" "LHoldBench$Shelf;") (by decide +kernel)) (fun _ h9 => h9) rfl dX1_leaveHold_1 ?_
  refine lv_iload_n hx hb dX1_leaveHold_4 rfl (lv_at hl 1 rfl) ?_
  refine lv_iconst (v := (-1)) hx hb dX1_leaveHold_5 (by decide) ?_
  refine kx_wv (wr := [(q1, .inr (1, [.ref q2, .ref q0, .ref q3, .int rf])), (q0, .inr (0, [.ref q0a, .ref q0b, .ref q0c, .ref q0d, .ref q0e, .int to])), (q0a, .inl (cA, 40, .inl si)), (q0b, .inl (cA, 480, .inl ki)), (q0c, .inl (cA, 480, .inl aa)), (q0d, .inl (cA, 480, .inl xx)), (q0e, .inl (cA, 480, .inl yy)), (q3, .inr (3, [.ref q3a, .int et, .int sp, .int ho, .int uw, .int mo, .int cs])), (q3a, .inl (cA, 250, .inl en))]) hP hD hS hA [1, 2, 3, 4] [0, 5, 6, 7, 8, 9, 10, 11, 12] rfl rfl (by decide) (by decide) (va_runVN (As := [.int p0, .int (-1)]) (rest := []) ⟨hx, hb, hml, hown, hts⟩ (c_X2_deepen l dC dI cA q2 q2a q2b q2c s.heap.size ma pl nu de p0 (-1) hma) ⟨va_cnB 2 hts gX1_leaveHold_X2_deepen_n117 rfl rfl rfl (hN.at 16 rfl) (hts (.initialized RX2) (by decide +kernel)) (by decide +kernel) ⟨(Nat.le_of_ble_eq_true rfl), (Nat.le_of_ble_eq_true rfl)⟩, (hts (.instanceMethod yX2_deepen) (by decide +kernel)), (hts (.selects RX2 yX2_deepen yX2_deepen) (by decide +kernel))⟩ (pW hN (hP.sub (ws' := [(q2, .inr (2, [.ref q2a, .ref q2b, .ref q2c, .int ma])), (q2a, .inl (cA, 6, .inl pl)), (q2b, .inl (cA, 60, .inl nu)), (q2c, .inl (cA, 60, .inl de))]) [1, 2, 3, 4] rfl) hK (hD.sub (ws' := [(q2, .inr (2, [.ref q2a, .ref q2b, .ref q2c, .int ma])), (q2a, .inl (cA, 6, .inl pl)), (q2b, .inl (cA, 60, .inl nu)), (q2c, .inl (cA, 60, .inl de))]) [1, 2, 3, 4] (by decide) rfl) (ci := 2) (q0 := 0) rfl rfl rfl) rfl rfl hl.1 rfl (lv_room (Nat.le_of_ble_eq_true rfl)) dX1_leaveHold_6 ⟨Nat.zero_le _, Nat.zero_le _⟩) (fun u_1 H locs hw_1 hP hD hS => ?_)
  obtain ⟨ma_1, pl_1, nu_1, de_1⟩ := u_1
  have hP : va_P (dC, dI) vwCl [(q1, .inr (1, [.ref q2, .ref q0, .ref q3, .int rf])), (q2, .inr (2, [.ref q2a, .ref q2b, .ref q2c, .int ma_1])), (q2a, .inl (cA, 6, .inl pl_1)), (q2b, .inl (cA, 60, .inl nu_1)), (q2c, .inl (cA, 60, .inl de_1)), (q0, .inr (0, [.ref q0a, .ref q0b, .ref q0c, .ref q0d, .ref q0e, .int to])), (q0a, .inl (cA, 40, .inl si)), (q0b, .inl (cA, 480, .inl ki)), (q0c, .inl (cA, 480, .inl aa)), (q0d, .inl (cA, 480, .inl xx)), (q0e, .inl (cA, 480, .inl yy)), (q3, .inr (3, [.ref q3a, .int et, .int sp, .int ho, .int uw, .int mo, .int cs])), (q3a, .inl (cA, 250, .inl en))] H := hP.sub [0, 9, 10, 11, 12, 1, 2, 3, 4, 5, 6, 7, 8] rfl
  have hD : va_D A [(q1, .inr (1, [.ref q2, .ref q0, .ref q3, .int rf])), (q2, .inr (2, [.ref q2a, .ref q2b, .ref q2c, .int ma_1])), (q2a, .inl (cA, 6, .inl pl_1)), (q2b, .inl (cA, 60, .inl nu_1)), (q2c, .inl (cA, 60, .inl de_1)), (q0, .inr (0, [.ref q0a, .ref q0b, .ref q0c, .ref q0d, .ref q0e, .int to])), (q0a, .inl (cA, 40, .inl si)), (q0b, .inl (cA, 480, .inl ki)), (q0c, .inl (cA, 480, .inl aa)), (q0d, .inl (cA, 480, .inl xx)), (q0e, .inl (cA, 480, .inl yy)), (q3, .inr (3, [.ref q3a, .int et, .int sp, .int ho, .int uw, .int mo, .int cs])), (q3a, .inl (cA, 250, .inl en))] := hD.sub [0, 9, 10, 11, 12, 1, 2, 3, 4, 5, 6, 7, 8] (by decide) rfl
  refine lv_aload_n hx hb dX1_leaveHold_9 rfl (lv_at hl 0 rfl) ?_
  refine va_get (D := (dC, dI)) (ci := 1) (v := .ref q3) (C := RX1) (T := TX1) (N := 4) hx hb hts (by decide +kernel) hown hK hP 0 rfl rfl 2 (by decide) (hts (.fieldLink RX1 19 RX1 "tally" "LHoldBench$Tally;") (by decide +kernel)) (fun _ h9 => h9) rfl dX1_leaveHold_10 ?_
  refine lv_iload_n hx hb dX1_leaveHold_13 rfl (lv_at hl 1 rfl) ?_
  refine lv_iload_n hx hb dX1_leaveHold_14 rfl (lv_at hl 2 rfl) ?_
  refine kx_wv (wr := [(q1, .inr (1, [.ref q2, .ref q0, .ref q3, .int rf])), (q2, .inr (2, [.ref q2a, .ref q2b, .ref q2c, .int ma_1])), (q2a, .inl (cA, 6, .inl pl_1)), (q2b, .inl (cA, 60, .inl nu_1)), (q2c, .inl (cA, 60, .inl de_1)), (q0, .inr (0, [.ref q0a, .ref q0b, .ref q0c, .ref q0d, .ref q0e, .int to])), (q0a, .inl (cA, 40, .inl si)), (q0b, .inl (cA, 480, .inl ki)), (q0c, .inl (cA, 480, .inl aa)), (q0d, .inl (cA, 480, .inl xx)), (q0e, .inl (cA, 480, .inl yy))]) hP hD hS hA [11, 12] [0, 1, 2, 3, 4, 5, 6, 7, 8, 9, 10] rfl rfl (by decide) (by decide) (va_runVN (As := [.int p0, .int p1]) (rest := []) ⟨hx, hb, hml, hown, hts⟩ (c_X3_enterLeft l dC dI cA q3 q3a H.size et sp ho uw mo cs en p0 p1 het) ⟨va_cnB 2 hts gX1_leaveHold_X3_enterLeft_n123 rfl rfl rfl (hN.at 19 rfl) (hts (.initialized RX3) (by decide +kernel)) (by decide +kernel) ⟨(Nat.le_of_ble_eq_true rfl), (Nat.le_of_ble_eq_true rfl)⟩, (hts (.instanceMethod yX3_enterLeft) (by decide +kernel)), (hts (.selects RX3 yX3_enterLeft yX3_enterLeft) (by decide +kernel))⟩ (pW hN (hP.sub (ws' := [(q3, .inr (3, [.ref q3a, .int et, .int sp, .int ho, .int uw, .int mo, .int cs])), (q3a, .inl (cA, 250, .inl en))]) [11, 12] rfl) hK (hD.sub (ws' := [(q3, .inr (3, [.ref q3a, .int et, .int sp, .int ho, .int uw, .int mo, .int cs])), (q3a, .inl (cA, 250, .inl en))]) [11, 12] (by decide) rfl) (ci := 3) (q0 := 0) rfl rfl rfl) rfl rfl hl.1 rfl (lv_room (Nat.le_of_ble_eq_true rfl)) dX1_leaveHold_15 ⟨Nat.zero_le _, Nat.zero_le _⟩) (fun u_2 H locs hw_2 hP hD hS => ?_)
  obtain ⟨et_2, sp_2, ho_2, uw_2, mo_2, cs_2, en_2⟩ := u_2
  have hP : va_P (dC, dI) vwCl [(q1, .inr (1, [.ref q2, .ref q0, .ref q3, .int rf])), (q2, .inr (2, [.ref q2a, .ref q2b, .ref q2c, .int ma_1])), (q2a, .inl (cA, 6, .inl pl_1)), (q2b, .inl (cA, 60, .inl nu_1)), (q2c, .inl (cA, 60, .inl de_1)), (q0, .inr (0, [.ref q0a, .ref q0b, .ref q0c, .ref q0d, .ref q0e, .int to])), (q0a, .inl (cA, 40, .inl si)), (q0b, .inl (cA, 480, .inl ki)), (q0c, .inl (cA, 480, .inl aa)), (q0d, .inl (cA, 480, .inl xx)), (q0e, .inl (cA, 480, .inl yy)), (q3, .inr (3, [.ref q3a, .int et_2, .int sp_2, .int ho_2, .int uw_2, .int mo_2, .int cs_2])), (q3a, .inl (cA, 250, .inl en_2))] H := hP
  have hD : va_D A [(q1, .inr (1, [.ref q2, .ref q0, .ref q3, .int rf])), (q2, .inr (2, [.ref q2a, .ref q2b, .ref q2c, .int ma_1])), (q2a, .inl (cA, 6, .inl pl_1)), (q2b, .inl (cA, 60, .inl nu_1)), (q2c, .inl (cA, 60, .inl de_1)), (q0, .inr (0, [.ref q0a, .ref q0b, .ref q0c, .ref q0d, .ref q0e, .int to])), (q0a, .inl (cA, 40, .inl si)), (q0b, .inl (cA, 480, .inl ki)), (q0c, .inl (cA, 480, .inl aa)), (q0d, .inl (cA, 480, .inl xx)), (q0e, .inl (cA, 480, .inl yy)), (q3, .inr (3, [.ref q3a, .int et_2, .int sp_2, .int ho_2, .int uw_2, .int mo_2, .int cs_2])), (q3a, .inl (cA, 250, .inl en_2))] := hD
  exact rt_v hx hb hr hlocks (rf, ma_1, pl_1, nu_1, de_1, to, si, ki, aa, xx, yy, et_2, sp_2, ho_2, uw_2, mo_2, cs_2, en_2) (by simp only [f_X1_leaveHold, ← hw_1, ← hw_2]) hP hD hS dX1_leaveHold_18
set_option maxHeartbeats 4000000 in
set_option maxRecDepth 100000 in
theorem c_X1_doAdd (l : Launch) (dC : Nat → ClassId) (dI : Nat → Nat → Nat) (cA : ClassId) (q1 q2 q2a q2b q2c q0 q0a q0b q0c q0d q0e q3 q3a : Nat) (sz : Nat) (rf : Int32) (ma : Int32) (pl : Nat → Int32) (nu : Nat → Int32) (de : Nat → Int32) (to : Int32) (si : Nat → Int32) (ki : Nat → Int32) (aa : Nat → Int32) (xx : Nat → Int32) (yy : Nat → Int32) (et : Int32) (sp : Int32) (ho : Int32) (uw : Int32) (mo : Int32) (cs : Int32) (en : Nat → Int32) (p0 : Int32) (p1 : Int32) (hma : ma.toInt ≤ 60) : Met l yX1_doAdd wsX1_doAdd ({ frames := 3, cells := 0, slots := 0, locals := 63 }) (pcW (dC, dI) [(q1, .inr (1, [.ref q2, .ref q0, .ref q3, .int rf])), (q2, .inr (2, [.ref q2a, .ref q2b, .ref q2c, .int ma])), (q2a, .inl (cA, 6, .inl pl)), (q2b, .inl (cA, 60, .inl nu)), (q2c, .inl (cA, 60, .inl de)), (q0, .inr (0, [.ref q0a, .ref q0b, .ref q0c, .ref q0d, .ref q0e, .int to])), (q0a, .inl (cA, 40, .inl si)), (q0b, .inl (cA, 480, .inl ki)), (q0c, .inl (cA, 480, .inl aa)), (q0d, .inl (cA, 480, .inl xx)), (q0e, .inl (cA, 480, .inl yy)), (q3, .inr (3, [.ref q3a, .int et, .int sp, .int ho, .int uw, .int mo, .int cs])), (q3a, .inl (cA, 250, .inl en))] [(cA, .int)] sz [.ref q1, .int p0, .int p1]) (QWi (dC, dI) (f_X1_doAdd rf ma pl nu de to si ki aa xx yy et sp ho uw mo cs en p0 p1) (wd_ru cA q1 q2 q2a q2b q2c q0 q0a q0b q0c q0d q0e q3 q3a) (va_A [(q1, .inr (1, [.ref q2, .ref q0, .ref q3, .int rf])), (q2, .inr (2, [.ref q2a, .ref q2b, .ref q2c, .int ma])), (q2a, .inl (cA, 6, .inl pl)), (q2b, .inl (cA, 60, .inl nu)), (q2c, .inl (cA, 60, .inl de)), (q0, .inr (0, [.ref q0a, .ref q0b, .ref q0c, .ref q0d, .ref q0e, .int to])), (q0a, .inl (cA, 40, .inl si)), (q0b, .inl (cA, 480, .inl ki)), (q0c, .inl (cA, 480, .inl aa)), (q0d, .inl (cA, 480, .inl xx)), (q0e, .inl (cA, 480, .inl yy)), (q3, .inr (3, [.ref q3a, .int et, .int sp, .int ho, .int uw, .int mo, .int cs])), (q3a, .inl (cA, 250, .inl en))] sz)) 0 0 (va_A [(q1, .inr (1, [.ref q2, .ref q0, .ref q3, .int rf])), (q2, .inr (2, [.ref q2a, .ref q2b, .ref q2c, .int ma])), (q2a, .inl (cA, 6, .inl pl)), (q2b, .inl (cA, 60, .inl nu)), (q2c, .inl (cA, 60, .inl de)), (q0, .inr (0, [.ref q0a, .ref q0b, .ref q0c, .ref q0d, .ref q0e, .int to])), (q0a, .inl (cA, 40, .inl si)), (q0b, .inl (cA, 480, .inl ki)), (q0c, .inl (cA, 480, .inl aa)), (q0d, .inl (cA, 480, .inl xx)), (q0e, .inl (cA, 480, .inl yy)), (q3, .inr (3, [.ref q3a, .int et, .int sp, .int ho, .int uw, .int mo, .int cs])), (q3a, .inl (cA, 250, .inl en))] sz) := by
  refine Met.ofW (cc := cX1_doAdd) (maxL := 4) (ret := (some .int)) (by decide) rfl ?_
  intro p e s m args below meth c s₁ B hml hv
  obtain ⟨rfl, hsz, hN, hP, hK, hD0⟩ := hv
  have hx := B.exec
  have hb := B.bytes
  have hr := B.returns
  have hts := atoms_spec (ws := wsX1_doAdd) B.pre
  have hown : s.vm.findClass RX1 = some m.cls := findClass_of_methodNamed B.named
  have hlocks := B.notSynchronized
  subst hsz
  have hD := hD0.self (sz := s.heap.size)
  generalize hAe : va_A [(q1, .inr (1, [.ref q2, .ref q0, .ref q3, .int rf])), (q2, .inr (2, [.ref q2a, .ref q2b, .ref q2c, .int ma])), (q2a, .inl (cA, 6, .inl pl)), (q2b, .inl (cA, 60, .inl nu)), (q2c, .inl (cA, 60, .inl de)), (q0, .inr (0, [.ref q0a, .ref q0b, .ref q0c, .ref q0d, .ref q0e, .int to])), (q0a, .inl (cA, 40, .inl si)), (q0b, .inl (cA, 480, .inl ki)), (q0c, .inl (cA, 480, .inl aa)), (q0d, .inl (cA, 480, .inl xx)), (q0e, .inl (cA, 480, .inl yy)), (q3, .inr (3, [.ref q3a, .int et, .int sp, .int ho, .int uw, .int mo, .int cs])), (q3a, .inl (cA, 250, .inl en))] s.heap.size = A at hD ⊢
  have hA : ∀ q : Nat, s.heap.size ≤ q → A q := fun q h => by rw [← hAe]; exact Or.inr h
  have hS : va_S A s.heap s.heap [] := va_S.rf
  have hl := lv_entry ([.ref q1, .int p0, .int p1]) (n := 4) (Nat.le_of_ble_eq_true rfl)
  rw [lg_entry_eq]
  generalize (lg_sl ([.ref q1, .int p0, .int p1]) ++ List.replicate (4 - (lg_sl ([.ref q1, .int p0, .int p1])).length) Slot.unset).toArray = ls at hl ⊢
  have hl : lv_has ls 4 [(0, .ref q1), (1, .int p0), (2, .int p1)] := hl
  refine lv_aload_n hx hb dX1_doAdd_0 rfl (lv_at hl 0 rfl) ?_
  refine va_get (D := (dC, dI)) (ci := 1) (v := .ref q2) (C := RX1) (T := TX1) (N := 4) hx hb hts (by decide +kernel) hown hK hP 0 rfl rfl 0 (by decide) (hts (.fieldLink RX1 9 RX1 "shelf" "LHoldBench$Shelf;") (by decide +kernel)) (fun _ h9 => h9) rfl dX1_doAdd_1 ?_
  refine lv_iload_n hx hb dX1_doAdd_4 rfl (lv_at hl 2 rfl) ?_
  have hPc := hP.sub (ws' := [(q2, .inr (2, [.ref q2a, .ref q2b, .ref q2c, .int ma])), (q2a, .inl (cA, 6, .inl pl)), (q2b, .inl (cA, 60, .inl nu)), (q2c, .inl (cA, 60, .inl de))]) [1, 2, 3, 4] rfl
  refine kx_read (va_runVN (As := [.int p1]) (rest := []) ⟨hx, hb, hml, hown, hts⟩ (c_X2_thingIn l dC dI cA q2 q2a q2b q2c ma pl nu de p1) ⟨va_cnB 1 hts gX1_doAdd_X2_thingIn_n89 rfl rfl rfl (hN.at 15 rfl) (hts (.initialized RX2) (by decide +kernel)) (by decide +kernel) ⟨(Nat.le_of_ble_eq_true rfl), (Nat.le_of_ble_eq_true rfl)⟩, (hts (.instanceMethod yX2_thingIn) (by decide +kernel)), (hts (.selects RX2 yX2_thingIn yX2_thingIn) (by decide +kernel))⟩ (pR hN hPc hK (ci := 2) (q0 := 0) rfl rfl rfl) rfl rfl hl.1 rfl (lv_room (Nat.le_of_ble_eq_true rfl)) dX1_doAdd_5 ⟨Nat.zero_le _, Nat.zero_le _⟩) ?_
  refine lv_istore_n (lv' := [(3, .int (f_X2_thingIn ma pl nu de p1)), (0, .ref q1), (1, .int p0), (2, .int p1)]) hx hb dX1_doAdd_8 rfl hl (by decide) rfl (fun ls hl => ?_)
  refine lv_iload_n hx hb dX1_doAdd_9 rfl (lv_at hl 0 rfl) ?_
  refine lv_iconst (v := (-1)) hx hb dX1_doAdd_10 (by decide) ?_
  refine lv_icmp_ne (tgt := 17) hx hb dX1_doAdd_11 (by decide) (fun c_1 => ?_) (fun c_1 => ?_)
  · refine lv_aload_n hx hb dX1_doAdd_17 rfl (lv_at hl 1 rfl) ?_
    refine va_get (D := (dC, dI)) (ci := 1) (v := .ref q2) (C := RX1) (T := TX1) (N := 4) hx hb hts (by decide +kernel) hown hK hP 0 rfl rfl 0 (by decide) (hts (.fieldLink RX1 9 RX1 "shelf" "LHoldBench$Shelf;") (by decide +kernel)) (fun _ h9 => h9) rfl dX1_doAdd_18 ?_
    refine lv_iload_n hx hb dX1_doAdd_21 rfl (lv_at hl 0 rfl) ?_
    have hPc := hP.sub (ws' := [(q2, .inr (2, [.ref q2a, .ref q2b, .ref q2c, .int ma])), (q2a, .inl (cA, 6, .inl pl)), (q2b, .inl (cA, 60, .inl nu)), (q2c, .inl (cA, 60, .inl de))]) [1, 2, 3, 4] rfl
    refine kx_read (va_runVN (As := [.int (f_X2_thingIn ma pl nu de p1)]) (rest := []) ⟨hx, hb, hml, hown, hts⟩ (c_X2_isHeld l dC dI cA q2 q2a q2b q2c ma pl nu de (f_X2_thingIn ma pl nu de p1) hma) ⟨va_cnB 1 hts gX1_doAdd_X2_isHeld_n126 rfl rfl rfl (hN.at 20 rfl) (hts (.initialized RX2) (by decide +kernel)) (by decide +kernel) ⟨(Nat.le_of_ble_eq_true rfl), (Nat.le_of_ble_eq_true rfl)⟩, (hts (.instanceMethod yX2_isHeld) (by decide +kernel)), (hts (.selects RX2 yX2_isHeld yX2_isHeld) (by decide +kernel))⟩ (pR hN hPc hK (ci := 2) (q0 := 0) rfl rfl rfl) rfl rfl hl.1 rfl (lv_room (Nat.le_of_ble_eq_true rfl)) dX1_doAdd_22 ⟨Nat.zero_le _, Nat.zero_le _⟩) ?_
    refine lv_if_ne (tgt := 31) hx hb dX1_doAdd_25 (by decide) (fun c_2 => ?_) (fun c_2 => ?_)
    · refine lv_aload_n hx hb dX1_doAdd_31 rfl (lv_at hl 1 rfl) ?_
      refine va_get (D := (dC, dI)) (ci := 1) (v := .ref q2) (C := RX1) (T := TX1) (N := 4) hx hb hts (by decide +kernel) hown hK hP 0 rfl rfl 0 (by decide) (hts (.fieldLink RX1 9 RX1 "shelf" "LHoldBench$Shelf;") (by decide +kernel)) (fun _ h9 => h9) rfl dX1_doAdd_32 ?_
      refine lv_iload_n hx hb dX1_doAdd_35 rfl (lv_at hl 0 rfl) ?_
      refine lv_iload_n hx hb dX1_doAdd_36 rfl (lv_at hl 2 rfl) ?_
      refine kx_wv (wr := [(q1, .inr (1, [.ref q2, .ref q0, .ref q3, .int rf])), (q0, .inr (0, [.ref q0a, .ref q0b, .ref q0c, .ref q0d, .ref q0e, .int to])), (q0a, .inl (cA, 40, .inl si)), (q0b, .inl (cA, 480, .inl ki)), (q0c, .inl (cA, 480, .inl aa)), (q0d, .inl (cA, 480, .inl xx)), (q0e, .inl (cA, 480, .inl yy)), (q3, .inr (3, [.ref q3a, .int et, .int sp, .int ho, .int uw, .int mo, .int cs])), (q3a, .inl (cA, 250, .inl en))]) hP hD hS hA [1, 2, 3, 4] [0, 5, 6, 7, 8, 9, 10, 11, 12] rfl rfl (by decide) (by decide) (va_runVN (As := [.int (f_X2_thingIn ma pl nu de p1), .int p0]) (rest := []) ⟨hx, hb, hml, hown, hts⟩ (c_X2_raiseNumber l dC dI cA q2 q2a q2b q2c s.heap.size ma pl nu de (f_X2_thingIn ma pl nu de p1) p0 hma) ⟨va_cnB 2 hts gX1_doAdd_X2_raiseNumber_n129 rfl rfl rfl (hN.at 21 rfl) (hts (.initialized RX2) (by decide +kernel)) (by decide +kernel) ⟨(Nat.le_of_ble_eq_true rfl), (Nat.le_of_ble_eq_true rfl)⟩, (hts (.instanceMethod yX2_raiseNumber) (by decide +kernel)), (hts (.selects RX2 yX2_raiseNumber yX2_raiseNumber) (by decide +kernel))⟩ (pW hN (hP.sub (ws' := [(q2, .inr (2, [.ref q2a, .ref q2b, .ref q2c, .int ma])), (q2a, .inl (cA, 6, .inl pl)), (q2b, .inl (cA, 60, .inl nu)), (q2c, .inl (cA, 60, .inl de))]) [1, 2, 3, 4] rfl) hK (hD.sub (ws' := [(q2, .inr (2, [.ref q2a, .ref q2b, .ref q2c, .int ma])), (q2a, .inl (cA, 6, .inl pl)), (q2b, .inl (cA, 60, .inl nu)), (q2c, .inl (cA, 60, .inl de))]) [1, 2, 3, 4] (by decide) rfl) (ci := 2) (q0 := 0) rfl rfl rfl) rfl rfl hl.1 rfl (lv_room (Nat.le_of_ble_eq_true rfl)) dX1_doAdd_37 ⟨Nat.zero_le _, Nat.zero_le _⟩) (fun u_3 H locs hw_3 hP hD hS => ?_)
      obtain ⟨ma_3, pl_3, nu_3, de_3⟩ := u_3
      have hP : va_P (dC, dI) vwCl [(q1, .inr (1, [.ref q2, .ref q0, .ref q3, .int rf])), (q2, .inr (2, [.ref q2a, .ref q2b, .ref q2c, .int ma_3])), (q2a, .inl (cA, 6, .inl pl_3)), (q2b, .inl (cA, 60, .inl nu_3)), (q2c, .inl (cA, 60, .inl de_3)), (q0, .inr (0, [.ref q0a, .ref q0b, .ref q0c, .ref q0d, .ref q0e, .int to])), (q0a, .inl (cA, 40, .inl si)), (q0b, .inl (cA, 480, .inl ki)), (q0c, .inl (cA, 480, .inl aa)), (q0d, .inl (cA, 480, .inl xx)), (q0e, .inl (cA, 480, .inl yy)), (q3, .inr (3, [.ref q3a, .int et, .int sp, .int ho, .int uw, .int mo, .int cs])), (q3a, .inl (cA, 250, .inl en))] H := hP.sub [0, 9, 10, 11, 12, 1, 2, 3, 4, 5, 6, 7, 8] rfl
      have hD : va_D A [(q1, .inr (1, [.ref q2, .ref q0, .ref q3, .int rf])), (q2, .inr (2, [.ref q2a, .ref q2b, .ref q2c, .int ma_3])), (q2a, .inl (cA, 6, .inl pl_3)), (q2b, .inl (cA, 60, .inl nu_3)), (q2c, .inl (cA, 60, .inl de_3)), (q0, .inr (0, [.ref q0a, .ref q0b, .ref q0c, .ref q0d, .ref q0e, .int to])), (q0a, .inl (cA, 40, .inl si)), (q0b, .inl (cA, 480, .inl ki)), (q0c, .inl (cA, 480, .inl aa)), (q0d, .inl (cA, 480, .inl xx)), (q0e, .inl (cA, 480, .inl yy)), (q3, .inr (3, [.ref q3a, .int et, .int sp, .int ho, .int uw, .int mo, .int cs])), (q3a, .inl (cA, 250, .inl en))] := hD.sub [0, 9, 10, 11, 12, 1, 2, 3, 4, 5, 6, 7, 8] (by decide) rfl
      refine lv_iconst (v := 0) hx hb dX1_doAdd_40 (by decide) ?_
      exact rt_i hx hb hr hlocks (rf, ma_3, pl_3, nu_3, de_3, to, si, ki, aa, xx, yy, et, sp, ho, uw, mo, cs, en) (by simp only [f_X1_doAdd, if_neg c_1, if_neg c_2, ← hw_3]) hP hD hS dX1_doAdd_41
    · refine lv_bipush (v := 111) hx hb dX1_doAdd_28 (by decide) ?_
      exact rt_i hx hb hr hlocks (rf, ma, pl, nu, de, to, si, ki, aa, xx, yy, et, sp, ho, uw, mo, cs, en) (by simp only [f_X1_doAdd, if_neg c_1, if_pos c_2]) hP hD hS dX1_doAdd_30
  · refine lv_bipush (v := 112) hx hb dX1_doAdd_14 (by decide) ?_
    exact rt_i hx hb hr hlocks (rf, ma, pl, nu, de, to, si, ki, aa, xx, yy, et, sp, ho, uw, mo, cs, en) (by simp only [f_X1_doAdd, if_pos c_1]) hP hD hS dX1_doAdd_16
set_option maxHeartbeats 4000000 in
set_option maxRecDepth 100000 in
theorem c_X1_doNew (l : Launch) (dC : Nat → ClassId) (dI : Nat → Nat → Nat) (cA : ClassId) (q1 q2 q2a q2b q2c q0 q0a q0b q0c q0d q0e q3 q3a : Nat) (sz : Nat) (rf : Int32) (ma : Int32) (pl : Nat → Int32) (nu : Nat → Int32) (de : Nat → Int32) (to : Int32) (si : Nat → Int32) (ki : Nat → Int32) (aa : Nat → Int32) (xx : Nat → Int32) (yy : Nat → Int32) (et : Int32) (sp : Int32) (ho : Int32) (uw : Int32) (mo : Int32) (cs : Int32) (en : Nat → Int32) (p0 : Int32) : Met l yX1_doNew wsX1_doNew ({ frames := 4, cells := 0, slots := 0, locals := 86 }) (pcW (dC, dI) [(q1, .inr (1, [.ref q2, .ref q0, .ref q3, .int rf])), (q2, .inr (2, [.ref q2a, .ref q2b, .ref q2c, .int ma])), (q2a, .inl (cA, 6, .inl pl)), (q2b, .inl (cA, 60, .inl nu)), (q2c, .inl (cA, 60, .inl de)), (q0, .inr (0, [.ref q0a, .ref q0b, .ref q0c, .ref q0d, .ref q0e, .int to])), (q0a, .inl (cA, 40, .inl si)), (q0b, .inl (cA, 480, .inl ki)), (q0c, .inl (cA, 480, .inl aa)), (q0d, .inl (cA, 480, .inl xx)), (q0e, .inl (cA, 480, .inl yy)), (q3, .inr (3, [.ref q3a, .int et, .int sp, .int ho, .int uw, .int mo, .int cs])), (q3a, .inl (cA, 250, .inl en))] [(cA, .int)] sz [.ref q1, .int p0]) (QWi (dC, dI) (f_X1_doNew rf ma pl nu de to si ki aa xx yy et sp ho uw mo cs en p0) (wd_ru cA q1 q2 q2a q2b q2c q0 q0a q0b q0c q0d q0e q3 q3a) (va_A [(q1, .inr (1, [.ref q2, .ref q0, .ref q3, .int rf])), (q2, .inr (2, [.ref q2a, .ref q2b, .ref q2c, .int ma])), (q2a, .inl (cA, 6, .inl pl)), (q2b, .inl (cA, 60, .inl nu)), (q2c, .inl (cA, 60, .inl de)), (q0, .inr (0, [.ref q0a, .ref q0b, .ref q0c, .ref q0d, .ref q0e, .int to])), (q0a, .inl (cA, 40, .inl si)), (q0b, .inl (cA, 480, .inl ki)), (q0c, .inl (cA, 480, .inl aa)), (q0d, .inl (cA, 480, .inl xx)), (q0e, .inl (cA, 480, .inl yy)), (q3, .inr (3, [.ref q3a, .int et, .int sp, .int ho, .int uw, .int mo, .int cs])), (q3a, .inl (cA, 250, .inl en))] sz)) 0 0 (va_A [(q1, .inr (1, [.ref q2, .ref q0, .ref q3, .int rf])), (q2, .inr (2, [.ref q2a, .ref q2b, .ref q2c, .int ma])), (q2a, .inl (cA, 6, .inl pl)), (q2b, .inl (cA, 60, .inl nu)), (q2c, .inl (cA, 60, .inl de)), (q0, .inr (0, [.ref q0a, .ref q0b, .ref q0c, .ref q0d, .ref q0e, .int to])), (q0a, .inl (cA, 40, .inl si)), (q0b, .inl (cA, 480, .inl ki)), (q0c, .inl (cA, 480, .inl aa)), (q0d, .inl (cA, 480, .inl xx)), (q0e, .inl (cA, 480, .inl yy)), (q3, .inr (3, [.ref q3a, .int et, .int sp, .int ho, .int uw, .int mo, .int cs])), (q3a, .inl (cA, 250, .inl en))] sz) := by
  refine Met.ofW (cc := cX1_doNew) (maxL := 2) (ret := (some .int)) (by decide) rfl ?_
  intro p e s m args below meth c s₁ B hml hv
  obtain ⟨rfl, hsz, hN, hP, hK, hD0⟩ := hv
  have hx := B.exec
  have hb := B.bytes
  have hr := B.returns
  have hts := atoms_spec (ws := wsX1_doNew) B.pre
  have hown : s.vm.findClass RX1 = some m.cls := findClass_of_methodNamed B.named
  have hlocks := B.notSynchronized
  subst hsz
  have hD := hD0.self (sz := s.heap.size)
  generalize hAe : va_A [(q1, .inr (1, [.ref q2, .ref q0, .ref q3, .int rf])), (q2, .inr (2, [.ref q2a, .ref q2b, .ref q2c, .int ma])), (q2a, .inl (cA, 6, .inl pl)), (q2b, .inl (cA, 60, .inl nu)), (q2c, .inl (cA, 60, .inl de)), (q0, .inr (0, [.ref q0a, .ref q0b, .ref q0c, .ref q0d, .ref q0e, .int to])), (q0a, .inl (cA, 40, .inl si)), (q0b, .inl (cA, 480, .inl ki)), (q0c, .inl (cA, 480, .inl aa)), (q0d, .inl (cA, 480, .inl xx)), (q0e, .inl (cA, 480, .inl yy)), (q3, .inr (3, [.ref q3a, .int et, .int sp, .int ho, .int uw, .int mo, .int cs])), (q3a, .inl (cA, 250, .inl en))] s.heap.size = A at hD ⊢
  have hA : ∀ q : Nat, s.heap.size ≤ q → A q := fun q h => by rw [← hAe]; exact Or.inr h
  have hS : va_S A s.heap s.heap [] := va_S.rf
  have hl := lv_entry ([.ref q1, .int p0]) (n := 2) (Nat.le_of_ble_eq_true rfl)
  rw [lg_entry_eq]
  generalize (lg_sl ([.ref q1, .int p0]) ++ List.replicate (2 - (lg_sl ([.ref q1, .int p0])).length) Slot.unset).toArray = ls at hl ⊢
  have hl : lv_has ls 2 [(0, .ref q1), (1, .int p0)] := hl
  refine lv_aload_n hx hb dX1_doNew_0 rfl (lv_at hl 0 rfl) ?_
  refine va_get (D := (dC, dI)) (ci := 1) (v := .ref q2) (C := RX1) (T := TX1) (N := 4) hx hb hts (by decide +kernel) hown hK hP 0 rfl rfl 0 (by decide) (hts (.fieldLink RX1 9 RX1 "shelf" "LHoldBench$Shelf;") (by decide +kernel)) (fun _ h9 => h9) rfl dX1_doNew_1 ?_
  refine lv_iload_n hx hb dX1_doNew_4 rfl (lv_at hl 1 rfl) ?_
  refine kx_wi (wr := [(q1, .inr (1, [.ref q2, .ref q0, .ref q3, .int rf])), (q0, .inr (0, [.ref q0a, .ref q0b, .ref q0c, .ref q0d, .ref q0e, .int to])), (q0a, .inl (cA, 40, .inl si)), (q0b, .inl (cA, 480, .inl ki)), (q0c, .inl (cA, 480, .inl aa)), (q0d, .inl (cA, 480, .inl xx)), (q0e, .inl (cA, 480, .inl yy)), (q3, .inr (3, [.ref q3a, .int et, .int sp, .int ho, .int uw, .int mo, .int cs])), (q3a, .inl (cA, 250, .inl en))]) hP hD hS hA [1, 2, 3, 4] [0, 5, 6, 7, 8, 9, 10, 11, 12] rfl rfl (by decide) (by decide) (va_runVN (As := [.int p0]) (rest := []) ⟨hx, hb, hml, hown, hts⟩ (c_X2_makeThing l dC dI cA q2 q2a q2b q2c s.heap.size ma pl nu de p0) ⟨va_cnB 1 hts gX1_doNew_X2_makeThing_n132 rfl rfl rfl (hN.at 23 rfl) (hts (.initialized RX2) (by decide +kernel)) (by decide +kernel) ⟨(Nat.le_of_ble_eq_true rfl), (Nat.le_of_ble_eq_true rfl)⟩, (hts (.instanceMethod yX2_makeThing) (by decide +kernel)), (hts (.selects RX2 yX2_makeThing yX2_makeThing) (by decide +kernel))⟩ (pW hN (hP.sub (ws' := [(q2, .inr (2, [.ref q2a, .ref q2b, .ref q2c, .int ma])), (q2a, .inl (cA, 6, .inl pl)), (q2b, .inl (cA, 60, .inl nu)), (q2c, .inl (cA, 60, .inl de))]) [1, 2, 3, 4] rfl) hK (hD.sub (ws' := [(q2, .inr (2, [.ref q2a, .ref q2b, .ref q2c, .int ma])), (q2a, .inl (cA, 6, .inl pl)), (q2b, .inl (cA, 60, .inl nu)), (q2c, .inl (cA, 60, .inl de))]) [1, 2, 3, 4] (by decide) rfl) (ci := 2) (q0 := 0) rfl rfl rfl) rfl rfl hl.1 rfl (lv_room (Nat.le_of_ble_eq_true rfl)) dX1_doNew_5 ⟨Nat.zero_le _, Nat.zero_le _⟩) (fun r_1 u_1 H locs hw_1 hP hD hS => ?_)
  obtain ⟨ma_1, pl_1, nu_1, de_1⟩ := u_1
  have hP : va_P (dC, dI) vwCl [(q1, .inr (1, [.ref q2, .ref q0, .ref q3, .int rf])), (q2, .inr (2, [.ref q2a, .ref q2b, .ref q2c, .int ma_1])), (q2a, .inl (cA, 6, .inl pl_1)), (q2b, .inl (cA, 60, .inl nu_1)), (q2c, .inl (cA, 60, .inl de_1)), (q0, .inr (0, [.ref q0a, .ref q0b, .ref q0c, .ref q0d, .ref q0e, .int to])), (q0a, .inl (cA, 40, .inl si)), (q0b, .inl (cA, 480, .inl ki)), (q0c, .inl (cA, 480, .inl aa)), (q0d, .inl (cA, 480, .inl xx)), (q0e, .inl (cA, 480, .inl yy)), (q3, .inr (3, [.ref q3a, .int et, .int sp, .int ho, .int uw, .int mo, .int cs])), (q3a, .inl (cA, 250, .inl en))] H := hP.sub [0, 9, 10, 11, 12, 1, 2, 3, 4, 5, 6, 7, 8] rfl
  have hD : va_D A [(q1, .inr (1, [.ref q2, .ref q0, .ref q3, .int rf])), (q2, .inr (2, [.ref q2a, .ref q2b, .ref q2c, .int ma_1])), (q2a, .inl (cA, 6, .inl pl_1)), (q2b, .inl (cA, 60, .inl nu_1)), (q2c, .inl (cA, 60, .inl de_1)), (q0, .inr (0, [.ref q0a, .ref q0b, .ref q0c, .ref q0d, .ref q0e, .int to])), (q0a, .inl (cA, 40, .inl si)), (q0b, .inl (cA, 480, .inl ki)), (q0c, .inl (cA, 480, .inl aa)), (q0d, .inl (cA, 480, .inl xx)), (q0e, .inl (cA, 480, .inl yy)), (q3, .inr (3, [.ref q3a, .int et, .int sp, .int ho, .int uw, .int mo, .int cs])), (q3a, .inl (cA, 250, .inl en))] := hD.sub [0, 9, 10, 11, 12, 1, 2, 3, 4, 5, 6, 7, 8] (by decide) rfl
  refine lv_bipush (v := (-3)) hx hb dX1_doNew_8 (by decide) ?_
  refine lv_icmp_ne (tgt := 18) hx hb dX1_doNew_10 (by decide) (fun c_2 => ?_) (fun c_2 => ?_)
  · refine lv_iconst (v := 0) hx hb dX1_doNew_18 (by decide) ?_
    exact rt_i hx hb hr hlocks (rf, ma_1, pl_1, nu_1, de_1, to, si, ki, aa, xx, yy, et, sp, ho, uw, mo, cs, en) (by simp only [f_X1_doNew, ← hw_1, if_neg c_2]) hP hD hS dX1_doNew_19
  · refine lv_bipush (v := 113) hx hb dX1_doNew_13 (by decide) ?_
    refine lv_goto (tgt := 19) hx hb dX1_doNew_15 (by decide) ?_
    exact rt_i hx hb hr hlocks (rf, ma_1, pl_1, nu_1, de_1, to, si, ki, aa, xx, yy, et, sp, ho, uw, mo, cs, en) (by simp only [f_X1_doNew, ← hw_1, if_pos c_2]) hP hD hS dX1_doNew_19
set_option maxHeartbeats 4000000 in
set_option maxRecDepth 100000 in
theorem c_X1_doSweep (l : Launch) (dC : Nat → ClassId) (dI : Nat → Nat → Nat) (cA : ClassId) (q1 q2 q2a q2b q2c q0 q0a q0b q0c q0d q0e q3 q3a : Nat) (sz : Nat) (rf : Int32) (ma : Int32) (pl : Nat → Int32) (nu : Nat → Int32) (de : Nat → Int32) (to : Int32) (si : Nat → Int32) (ki : Nat → Int32) (aa : Nat → Int32) (xx : Nat → Int32) (yy : Nat → Int32) (et : Int32) (sp : Int32) (ho : Int32) (uw : Int32) (mo : Int32) (cs : Int32) (en : Nat → Int32) (p0 : Int32) (hma : ma.toInt ≤ 60) (het : 0 ≤ et.toInt) (het5 : et.toInt ≤ 5000) : Met l yX1_doSweep wsX1_doSweep ({ frames := 3, cells := 0, slots := 0, locals := 65 }) (pcW (dC, dI) [(q1, .inr (1, [.ref q2, .ref q0, .ref q3, .int rf])), (q2, .inr (2, [.ref q2a, .ref q2b, .ref q2c, .int ma])), (q2a, .inl (cA, 6, .inl pl)), (q2b, .inl (cA, 60, .inl nu)), (q2c, .inl (cA, 60, .inl de)), (q0, .inr (0, [.ref q0a, .ref q0b, .ref q0c, .ref q0d, .ref q0e, .int to])), (q0a, .inl (cA, 40, .inl si)), (q0b, .inl (cA, 480, .inl ki)), (q0c, .inl (cA, 480, .inl aa)), (q0d, .inl (cA, 480, .inl xx)), (q0e, .inl (cA, 480, .inl yy)), (q3, .inr (3, [.ref q3a, .int et, .int sp, .int ho, .int uw, .int mo, .int cs])), (q3a, .inl (cA, 250, .inl en))] [(cA, .int)] sz [.ref q1, .int p0]) (QWv (dC, dI) (f_X1_doSweep rf ma pl nu de to si ki aa xx yy et sp ho uw mo cs en p0) (wd_ru cA q1 q2 q2a q2b q2c q0 q0a q0b q0c q0d q0e q3 q3a) (va_A [(q1, .inr (1, [.ref q2, .ref q0, .ref q3, .int rf])), (q2, .inr (2, [.ref q2a, .ref q2b, .ref q2c, .int ma])), (q2a, .inl (cA, 6, .inl pl)), (q2b, .inl (cA, 60, .inl nu)), (q2c, .inl (cA, 60, .inl de)), (q0, .inr (0, [.ref q0a, .ref q0b, .ref q0c, .ref q0d, .ref q0e, .int to])), (q0a, .inl (cA, 40, .inl si)), (q0b, .inl (cA, 480, .inl ki)), (q0c, .inl (cA, 480, .inl aa)), (q0d, .inl (cA, 480, .inl xx)), (q0e, .inl (cA, 480, .inl yy)), (q3, .inr (3, [.ref q3a, .int et, .int sp, .int ho, .int uw, .int mo, .int cs])), (q3a, .inl (cA, 250, .inl en))] sz)) 0 0 (va_A [(q1, .inr (1, [.ref q2, .ref q0, .ref q3, .int rf])), (q2, .inr (2, [.ref q2a, .ref q2b, .ref q2c, .int ma])), (q2a, .inl (cA, 6, .inl pl)), (q2b, .inl (cA, 60, .inl nu)), (q2c, .inl (cA, 60, .inl de)), (q0, .inr (0, [.ref q0a, .ref q0b, .ref q0c, .ref q0d, .ref q0e, .int to])), (q0a, .inl (cA, 40, .inl si)), (q0b, .inl (cA, 480, .inl ki)), (q0c, .inl (cA, 480, .inl aa)), (q0d, .inl (cA, 480, .inl xx)), (q0e, .inl (cA, 480, .inl yy)), (q3, .inr (3, [.ref q3a, .int et, .int sp, .int ho, .int uw, .int mo, .int cs])), (q3a, .inl (cA, 250, .inl en))] sz) := by
  refine Met.ofW (cc := cX1_doSweep) (maxL := 7) (ret := none) (by decide) rfl ?_
  intro p e s m args below meth c s₁ B hml hv
  obtain ⟨rfl, hsz, hN, hP, hK, hD0⟩ := hv
  have hx := B.exec
  have hb := B.bytes
  have hr := B.returns
  have hts := atoms_spec (ws := wsX1_doSweep) B.pre
  have hown : s.vm.findClass RX1 = some m.cls := findClass_of_methodNamed B.named
  have hlocks := B.notSynchronized
  subst hsz
  have hD := hD0.self (sz := s.heap.size)
  generalize hAe : va_A [(q1, .inr (1, [.ref q2, .ref q0, .ref q3, .int rf])), (q2, .inr (2, [.ref q2a, .ref q2b, .ref q2c, .int ma])), (q2a, .inl (cA, 6, .inl pl)), (q2b, .inl (cA, 60, .inl nu)), (q2c, .inl (cA, 60, .inl de)), (q0, .inr (0, [.ref q0a, .ref q0b, .ref q0c, .ref q0d, .ref q0e, .int to])), (q0a, .inl (cA, 40, .inl si)), (q0b, .inl (cA, 480, .inl ki)), (q0c, .inl (cA, 480, .inl aa)), (q0d, .inl (cA, 480, .inl xx)), (q0e, .inl (cA, 480, .inl yy)), (q3, .inr (3, [.ref q3a, .int et, .int sp, .int ho, .int uw, .int mo, .int cs])), (q3a, .inl (cA, 250, .inl en))] s.heap.size = A at hD ⊢
  have hA : ∀ q : Nat, s.heap.size ≤ q → A q := fun q h => by rw [← hAe]; exact Or.inr h
  have hS : va_S A s.heap s.heap [] := va_S.rf
  have hl := lv_entry ([.ref q1, .int p0]) (n := 7) (Nat.le_of_ble_eq_true rfl)
  rw [lg_entry_eq]
  generalize (lg_sl ([.ref q1, .int p0]) ++ List.replicate (7 - (lg_sl ([.ref q1, .int p0])).length) Slot.unset).toArray = ls at hl ⊢
  have hl : lv_has ls 7 [(0, .ref q1), (1, .int p0)] := hl
  refine lv_iconst (v := 0) hx hb dX1_doSweep_0 (by decide) ?_
  refine lv_istore_n (lv' := [(2, .int 0), (0, .ref q1), (1, .int p0)]) hx hb dX1_doSweep_1 rfl hl (by decide) rfl (fun ls hl => ?_)
  refine lv_iconst (v := 0) hx hb dX1_doSweep_2 (by decide) ?_
  refine lv_istore_n (lv' := [(3, .int 0), (2, .int 0), (0, .ref q1), (1, .int p0)]) hx hb dX1_doSweep_3 rfl hl (by decide) rfl (fun ls hl => ?_)
  refine lv_iconst (v := 0) hx hb dX1_doSweep_4 (by decide) ?_
  refine lv_istore (lv' := [(4, .int 0), (3, .int 0), (2, .int 0), (0, .ref q1), (1, .int p0)]) hx hb dX1_doSweep_5 hl (by decide) rfl (fun ls hl => ?_)
  have hloop : ∀ (n : Nat) (v1 v2 v3 v4 : Int32) (rf_l : Int32) (ma_l : Int32) (pl_l : Nat → Int32) (nu_l : Nat → Int32) (de_l : Nat → Int32) (to_l : Int32) (si_l : Nat → Int32) (ki_l : Nat → Int32) (aa_l : Nat → Int32) (xx_l : Nat → Int32) (yy_l : Nat → Int32) (et_l : Int32) (sp_l : Int32) (ho_l : Int32) (uw_l : Int32) (mo_l : Int32) (cs_l : Int32) (en_l : Nat → Int32), (∃ k : Nat, k ≤ 6 ∧ v4 = nI k ∧ 6 < k + n ∧ ma_l.toInt ≤ 60 ∧ 0 ≤ et_l.toInt ∧ et_l.toInt ≤ 5000 + 2 * (k : Int)) → L_X1_doSweep_7 n v1 v2 v3 v4 rf_l ma_l pl_l nu_l de_l to_l si_l ki_l aa_l xx_l yy_l et_l sp_l ho_l uw_l mo_l cs_l en_l = f_X1_doSweep rf ma pl nu de to si ki aa xx yy et sp ho uw mo cs en p0 → ∀ (H : Heap) (locs : List Loc) (ls : Array Slot), va_P (dC, dI) vwCl [(q1, .inr (1, [.ref q2, .ref q0, .ref q3, .int rf_l])), (q2, .inr (2, [.ref q2a, .ref q2b, .ref q2c, .int ma_l])), (q2a, .inl (cA, 6, .inl pl_l)), (q2b, .inl (cA, 60, .inl nu_l)), (q2c, .inl (cA, 60, .inl de_l)), (q0, .inr (0, [.ref q0a, .ref q0b, .ref q0c, .ref q0d, .ref q0e, .int to_l])), (q0a, .inl (cA, 40, .inl si_l)), (q0b, .inl (cA, 480, .inl ki_l)), (q0c, .inl (cA, 480, .inl aa_l)), (q0d, .inl (cA, 480, .inl xx_l)), (q0e, .inl (cA, 480, .inl yy_l)), (q3, .inr (3, [.ref q3a, .int et_l, .int sp_l, .int ho_l, .int uw_l, .int mo_l, .int cs_l])), (q3a, .inl (cA, 250, .inl en_l))] H → va_D A [(q1, .inr (1, [.ref q2, .ref q0, .ref q3, .int rf_l])), (q2, .inr (2, [.ref q2a, .ref q2b, .ref q2c, .int ma_l])), (q2a, .inl (cA, 6, .inl pl_l)), (q2b, .inl (cA, 60, .inl nu_l)), (q2c, .inl (cA, 60, .inl de_l)), (q0, .inr (0, [.ref q0a, .ref q0b, .ref q0c, .ref q0d, .ref q0e, .int to_l])), (q0a, .inl (cA, 40, .inl si_l)), (q0b, .inl (cA, 480, .inl ki_l)), (q0c, .inl (cA, 480, .inl aa_l)), (q0d, .inl (cA, 480, .inl xx_l)), (q0e, .inl (cA, 480, .inl yy_l)), (q3, .inr (3, [.ref q3a, .int et_l, .int sp_l, .int ho_l, .int uw_l, .int mo_l, .int cs_l])), (q3a, .inl (cA, 250, .inl en_l))] → va_S A s.heap H locs → lv_has ls 7 [(0, .ref q1), (1, .int v1), (2, .int v2), (3, .int v3), (4, .int v4)] → W p l e (headSpec wsX1_doSweep ({ frames := 3, cells := 0, slots := 0, locals := 65 })).room s m ([.ref q1, .int p0] : List Value).toArray below meth c H locs 0 0 (MQ below (QWv (dC, dI) (f_X1_doSweep rf ma pl nu de to si ki aa xx yy et sp ho uw mo cs en p0) (wd_ru cA q1 q2 q2a q2b q2c q0 q0a q0b q0c q0d q0e q3 q3a) A) ([.ref q1, .int p0] : List Value).toArray s 0 0 A) (F0 m 7 ls []) := by
    intro n
    induction n with
    | zero =>
      intro v1 v2 v3 v4 rf_l ma_l pl_l nu_l de_l to_l si_l ki_l aa_l xx_l yy_l et_l sp_l ho_l uw_l mo_l cs_l en_l hI
      exact absurd hI (by rintro ⟨k, h1, -, h2, -⟩; omega)
    | succ n ih =>
      intro v1 v2 v3 v4 rf_l ma_l pl_l nu_l de_l to_l si_l ki_l aa_l xx_l yy_l et_l sp_l ho_l uw_l mo_l cs_l en_l hI hE H locs ls hP hD hS hl
      obtain ⟨k, hk1, hk2, hk3, hma, het, hec⟩ := hI
      refine lv_iload hx hb dX1_doSweep_7 (lv_at hl 4 rfl) ?_
      refine lv_bipush (v := 6) hx hb dX1_doSweep_9 (by decide) ?_
      refine lv_icmp_ge (tgt := 87) hx hb dX1_doSweep_11 (by decide) (fun c_1 => ?_) (fun c_1 => ?_)
      · refine lv_aload_n hx hb dX1_doSweep_87 rfl (lv_at hl 0 rfl) ?_
        refine va_get (D := (dC, dI)) (ci := 1) (v := .ref q3) (C := RX1) (T := TX1) (N := 4) hx hb hts (by decide +kernel) hown hK hP 0 rfl rfl 2 (by decide) (hts (.fieldLink RX1 19 RX1 "tally" "LHoldBench$Tally;") (by decide +kernel)) (fun _ h9 => h9) rfl dX1_doSweep_88 ?_
        refine lv_iload_n hx hb dX1_doSweep_91 rfl (lv_at hl 2 rfl) ?_
        refine kx_wv (wr := [(q1, .inr (1, [.ref q2, .ref q0, .ref q3, .int rf_l])), (q2, .inr (2, [.ref q2a, .ref q2b, .ref q2c, .int ma_l])), (q2a, .inl (cA, 6, .inl pl_l)), (q2b, .inl (cA, 60, .inl nu_l)), (q2c, .inl (cA, 60, .inl de_l)), (q0, .inr (0, [.ref q0a, .ref q0b, .ref q0c, .ref q0d, .ref q0e, .int to_l])), (q0a, .inl (cA, 40, .inl si_l)), (q0b, .inl (cA, 480, .inl ki_l)), (q0c, .inl (cA, 480, .inl aa_l)), (q0d, .inl (cA, 480, .inl xx_l)), (q0e, .inl (cA, 480, .inl yy_l))]) hP hD hS hA [11, 12] [0, 1, 2, 3, 4, 5, 6, 7, 8, 9, 10] rfl rfl (by decide) (by decide) (va_runVN (As := [.int v2]) (rest := []) ⟨hx, hb, hml, hown, hts⟩ (c_X3_enterMark l dC dI cA q3 q3a H.size et_l sp_l ho_l uw_l mo_l cs_l en_l v2 het) ⟨va_cnB 1 hts gX1_doSweep_X3_enterMark_n64 rfl rfl rfl (hN.at 14 rfl) (hts (.initialized RX3) (by decide +kernel)) (by decide +kernel) ⟨(Nat.le_of_ble_eq_true rfl), (Nat.le_of_ble_eq_true rfl)⟩, (hts (.instanceMethod yX3_enterMark) (by decide +kernel)), (hts (.selects RX3 yX3_enterMark yX3_enterMark) (by decide +kernel))⟩ (pW hN (hP.sub (ws' := [(q3, .inr (3, [.ref q3a, .int et_l, .int sp_l, .int ho_l, .int uw_l, .int mo_l, .int cs_l])), (q3a, .inl (cA, 250, .inl en_l))]) [11, 12] rfl) hK (hD.sub (ws' := [(q3, .inr (3, [.ref q3a, .int et_l, .int sp_l, .int ho_l, .int uw_l, .int mo_l, .int cs_l])), (q3a, .inl (cA, 250, .inl en_l))]) [11, 12] (by decide) rfl) (ci := 3) (q0 := 0) rfl rfl rfl) rfl rfl hl.1 rfl (lv_room (Nat.le_of_ble_eq_true rfl)) dX1_doSweep_92 ⟨Nat.zero_le _, Nat.zero_le _⟩) (fun u_2 H locs hw_2 hP hD hS => ?_)
        obtain ⟨et_2, sp_2, ho_2, uw_2, mo_2, cs_2, en_2⟩ := u_2
        have hP : va_P (dC, dI) vwCl [(q1, .inr (1, [.ref q2, .ref q0, .ref q3, .int rf_l])), (q2, .inr (2, [.ref q2a, .ref q2b, .ref q2c, .int ma_l])), (q2a, .inl (cA, 6, .inl pl_l)), (q2b, .inl (cA, 60, .inl nu_l)), (q2c, .inl (cA, 60, .inl de_l)), (q0, .inr (0, [.ref q0a, .ref q0b, .ref q0c, .ref q0d, .ref q0e, .int to_l])), (q0a, .inl (cA, 40, .inl si_l)), (q0b, .inl (cA, 480, .inl ki_l)), (q0c, .inl (cA, 480, .inl aa_l)), (q0d, .inl (cA, 480, .inl xx_l)), (q0e, .inl (cA, 480, .inl yy_l)), (q3, .inr (3, [.ref q3a, .int et_2, .int sp_2, .int ho_2, .int uw_2, .int mo_2, .int cs_2])), (q3a, .inl (cA, 250, .inl en_2))] H := hP
        have hD : va_D A [(q1, .inr (1, [.ref q2, .ref q0, .ref q3, .int rf_l])), (q2, .inr (2, [.ref q2a, .ref q2b, .ref q2c, .int ma_l])), (q2a, .inl (cA, 6, .inl pl_l)), (q2b, .inl (cA, 60, .inl nu_l)), (q2c, .inl (cA, 60, .inl de_l)), (q0, .inr (0, [.ref q0a, .ref q0b, .ref q0c, .ref q0d, .ref q0e, .int to_l])), (q0a, .inl (cA, 40, .inl si_l)), (q0b, .inl (cA, 480, .inl ki_l)), (q0c, .inl (cA, 480, .inl aa_l)), (q0d, .inl (cA, 480, .inl xx_l)), (q0e, .inl (cA, 480, .inl yy_l)), (q3, .inr (3, [.ref q3a, .int et_2, .int sp_2, .int ho_2, .int uw_2, .int mo_2, .int cs_2])), (q3a, .inl (cA, 250, .inl en_2))] := hD
        exact rt_v hx hb hr hlocks (rf_l, ma_l, pl_l, nu_l, de_l, to_l, si_l, ki_l, aa_l, xx_l, yy_l, et_2, sp_2, ho_2, uw_2, mo_2, cs_2, en_2) (by rw [← hE]; simp only [L_X1_doSweep_7, if_pos c_1, ← hw_2]) hP hD hS dX1_doSweep_95
      · refine lv_iload_n hx hb dX1_doSweep_14 rfl (lv_at hl 3 rfl) ?_
        refine lv_if_ne (tgt := 87) hx hb dX1_doSweep_15 (by decide) (fun c_3 => ?_) (fun c_3 => ?_)
        · refine lv_aload_n hx hb dX1_doSweep_87 rfl (lv_at hl 0 rfl) ?_
          refine va_get (D := (dC, dI)) (ci := 1) (v := .ref q3) (C := RX1) (T := TX1) (N := 4) hx hb hts (by decide +kernel) hown hK hP 0 rfl rfl 2 (by decide) (hts (.fieldLink RX1 19 RX1 "tally" "LHoldBench$Tally;") (by decide +kernel)) (fun _ h9 => h9) rfl dX1_doSweep_88 ?_
          refine lv_iload_n hx hb dX1_doSweep_91 rfl (lv_at hl 2 rfl) ?_
          refine kx_wv (wr := [(q1, .inr (1, [.ref q2, .ref q0, .ref q3, .int rf_l])), (q2, .inr (2, [.ref q2a, .ref q2b, .ref q2c, .int ma_l])), (q2a, .inl (cA, 6, .inl pl_l)), (q2b, .inl (cA, 60, .inl nu_l)), (q2c, .inl (cA, 60, .inl de_l)), (q0, .inr (0, [.ref q0a, .ref q0b, .ref q0c, .ref q0d, .ref q0e, .int to_l])), (q0a, .inl (cA, 40, .inl si_l)), (q0b, .inl (cA, 480, .inl ki_l)), (q0c, .inl (cA, 480, .inl aa_l)), (q0d, .inl (cA, 480, .inl xx_l)), (q0e, .inl (cA, 480, .inl yy_l))]) hP hD hS hA [11, 12] [0, 1, 2, 3, 4, 5, 6, 7, 8, 9, 10] rfl rfl (by decide) (by decide) (va_runVN (As := [.int v2]) (rest := []) ⟨hx, hb, hml, hown, hts⟩ (c_X3_enterMark l dC dI cA q3 q3a H.size et_l sp_l ho_l uw_l mo_l cs_l en_l v2 het) ⟨va_cnB 1 hts gX1_doSweep_X3_enterMark_n64 rfl rfl rfl (hN.at 14 rfl) (hts (.initialized RX3) (by decide +kernel)) (by decide +kernel) ⟨(Nat.le_of_ble_eq_true rfl), (Nat.le_of_ble_eq_true rfl)⟩, (hts (.instanceMethod yX3_enterMark) (by decide +kernel)), (hts (.selects RX3 yX3_enterMark yX3_enterMark) (by decide +kernel))⟩ (pW hN (hP.sub (ws' := [(q3, .inr (3, [.ref q3a, .int et_l, .int sp_l, .int ho_l, .int uw_l, .int mo_l, .int cs_l])), (q3a, .inl (cA, 250, .inl en_l))]) [11, 12] rfl) hK (hD.sub (ws' := [(q3, .inr (3, [.ref q3a, .int et_l, .int sp_l, .int ho_l, .int uw_l, .int mo_l, .int cs_l])), (q3a, .inl (cA, 250, .inl en_l))]) [11, 12] (by decide) rfl) (ci := 3) (q0 := 0) rfl rfl rfl) rfl rfl hl.1 rfl (lv_room (Nat.le_of_ble_eq_true rfl)) dX1_doSweep_92 ⟨Nat.zero_le _, Nat.zero_le _⟩) (fun u_4 H locs hw_4 hP hD hS => ?_)
          obtain ⟨et_4, sp_4, ho_4, uw_4, mo_4, cs_4, en_4⟩ := u_4
          have hP : va_P (dC, dI) vwCl [(q1, .inr (1, [.ref q2, .ref q0, .ref q3, .int rf_l])), (q2, .inr (2, [.ref q2a, .ref q2b, .ref q2c, .int ma_l])), (q2a, .inl (cA, 6, .inl pl_l)), (q2b, .inl (cA, 60, .inl nu_l)), (q2c, .inl (cA, 60, .inl de_l)), (q0, .inr (0, [.ref q0a, .ref q0b, .ref q0c, .ref q0d, .ref q0e, .int to_l])), (q0a, .inl (cA, 40, .inl si_l)), (q0b, .inl (cA, 480, .inl ki_l)), (q0c, .inl (cA, 480, .inl aa_l)), (q0d, .inl (cA, 480, .inl xx_l)), (q0e, .inl (cA, 480, .inl yy_l)), (q3, .inr (3, [.ref q3a, .int et_4, .int sp_4, .int ho_4, .int uw_4, .int mo_4, .int cs_4])), (q3a, .inl (cA, 250, .inl en_4))] H := hP
          have hD : va_D A [(q1, .inr (1, [.ref q2, .ref q0, .ref q3, .int rf_l])), (q2, .inr (2, [.ref q2a, .ref q2b, .ref q2c, .int ma_l])), (q2a, .inl (cA, 6, .inl pl_l)), (q2b, .inl (cA, 60, .inl nu_l)), (q2c, .inl (cA, 60, .inl de_l)), (q0, .inr (0, [.ref q0a, .ref q0b, .ref q0c, .ref q0d, .ref q0e, .int to_l])), (q0a, .inl (cA, 40, .inl si_l)), (q0b, .inl (cA, 480, .inl ki_l)), (q0c, .inl (cA, 480, .inl aa_l)), (q0d, .inl (cA, 480, .inl xx_l)), (q0e, .inl (cA, 480, .inl yy_l)), (q3, .inr (3, [.ref q3a, .int et_4, .int sp_4, .int ho_4, .int uw_4, .int mo_4, .int cs_4])), (q3a, .inl (cA, 250, .inl en_4))] := hD
          exact rt_v hx hb hr hlocks (rf_l, ma_l, pl_l, nu_l, de_l, to_l, si_l, ki_l, aa_l, xx_l, yy_l, et_4, sp_4, ho_4, uw_4, mo_4, cs_4, en_4) (by rw [← hE]; simp only [L_X1_doSweep_7, if_neg c_1, if_neg c_3, ← hw_4]) hP hD hS dX1_doSweep_95
        · refine lv_aload_n hx hb dX1_doSweep_18 rfl (lv_at hl 0 rfl) ?_
          refine va_get (D := (dC, dI)) (ci := 1) (v := .ref q2) (C := RX1) (T := TX1) (N := 4) hx hb hts (by decide +kernel) hown hK hP 0 rfl rfl 0 (by decide) (hts (.fieldLink RX1 9 RX1 "shelf" "LHoldBench$Shelf;") (by decide +kernel)) (fun _ h9 => h9) rfl dX1_doSweep_19 ?_
          refine lv_iload hx hb dX1_doSweep_22 (lv_at hl 4 rfl) ?_
          have hPc := hP.sub (ws' := [(q2, .inr (2, [.ref q2a, .ref q2b, .ref q2c, .int ma_l])), (q2a, .inl (cA, 6, .inl pl_l)), (q2b, .inl (cA, 60, .inl nu_l)), (q2c, .inl (cA, 60, .inl de_l))]) [1, 2, 3, 4] rfl
          refine kx_read (va_runVN (As := [.int v4]) (rest := []) ⟨hx, hb, hml, hown, hts⟩ (c_X2_thingIn l dC dI cA q2 q2a q2b q2c ma_l pl_l nu_l de_l v4) ⟨va_cnB 1 hts gX1_doSweep_X2_thingIn_n89 rfl rfl rfl (hN.at 15 rfl) (hts (.initialized RX2) (by decide +kernel)) (by decide +kernel) ⟨(Nat.le_of_ble_eq_true rfl), (Nat.le_of_ble_eq_true rfl)⟩, (hts (.instanceMethod yX2_thingIn) (by decide +kernel)), (hts (.selects RX2 yX2_thingIn yX2_thingIn) (by decide +kernel))⟩ (pR hN hPc hK (ci := 2) (q0 := 0) rfl rfl rfl) rfl rfl hl.1 rfl (lv_room (Nat.le_of_ble_eq_true rfl)) dX1_doSweep_24 ⟨Nat.zero_le _, Nat.zero_le _⟩) ?_
          refine lv_istore (lv' := [(5, .int (f_X2_thingIn ma_l pl_l nu_l de_l v4)), (0, .ref q1), (1, .int v1), (2, .int v2), (3, .int v3), (4, .int v4)]) hx hb dX1_doSweep_27 hl (by decide) rfl (fun ls hl => ?_)
          refine lv_iload hx hb dX1_doSweep_29 (lv_at hl 0 rfl) ?_
          refine lv_iconst (v := (-1)) hx hb dX1_doSweep_31 (by decide) ?_
          refine lv_icmp_eq (tgt := 81) hx hb dX1_doSweep_32 (by decide) (fun c_5 => ?_) (fun c_5 => ?_)
          · refine lv_iinc (v := (v4 + 1)) (lv' := [(4, .int (v4 + 1)), (5, .int (f_X2_thingIn ma_l pl_l nu_l de_l v4)), (0, .ref q1), (1, .int v1), (2, .int v2), (3, .int v3)]) hx hb dX1_doSweep_81 hl (k := 5) rfl rfl (by decide) rfl (fun ls hl => ?_)
            refine lv_goto (tgt := 7) hx hb dX1_doSweep_84 (by decide) ?_
            exact ih v1 v2 v3 (v4 + 1) rf_l ma_l pl_l nu_l de_l to_l si_l ki_l aa_l xx_l yy_l et_l sp_l ho_l uw_l mo_l cs_l en_l ⟨k + 1, by have := lt_nI (by omega) hk2 c_1; omega, by rw [hk2]; exact nI_1 k, by omega, hma, het, by have := hec; omega⟩ (by rw [← hE]; simp only [L_X1_doSweep_7, if_neg c_1, if_pos c_3, if_pos c_5]) _ _ _ hP hD hS (lv_sub hl [2, 3, 4, 5, 0] rfl)
          · refine lv_aload_n hx hb dX1_doSweep_35 rfl (lv_at hl 1 rfl) ?_
            refine lv_iload hx hb dX1_doSweep_36 (lv_at hl 0 rfl) ?_
            refine kx_wv (wr := []) hP hD hS hA [0, 1, 2, 3, 4, 5, 6, 7, 8, 9, 10, 11, 12] [] rfl rfl (by decide) (by decide) (va_runV (As := [.int (f_X2_thingIn ma_l pl_l nu_l de_l v4)]) (rest := []) ⟨hx, hb, hml, hown, hts⟩ (c_X1_beginHold l dC dI cA q1 q2 q2a q2b q2c q0 q0a q0b q0c q0d q0e q3 q3a H.size rf_l ma_l pl_l nu_l de_l to_l si_l ki_l aa_l xx_l yy_l et_l sp_l ho_l uw_l mo_l cs_l en_l (f_X2_thingIn ma_l pl_l nu_l de_l v4) hma het) (cwV 1 hts gX1_doSweep_X1_beginHold rfl rfl rfl (by decide +kernel) ⟨(Nat.le_of_ble_eq_true rfl), (Nat.le_of_ble_eq_true rfl)⟩) (pW hN (hP.sub (ws' := [(q1, .inr (1, [.ref q2, .ref q0, .ref q3, .int rf_l])), (q2, .inr (2, [.ref q2a, .ref q2b, .ref q2c, .int ma_l])), (q2a, .inl (cA, 6, .inl pl_l)), (q2b, .inl (cA, 60, .inl nu_l)), (q2c, .inl (cA, 60, .inl de_l)), (q0, .inr (0, [.ref q0a, .ref q0b, .ref q0c, .ref q0d, .ref q0e, .int to_l])), (q0a, .inl (cA, 40, .inl si_l)), (q0b, .inl (cA, 480, .inl ki_l)), (q0c, .inl (cA, 480, .inl aa_l)), (q0d, .inl (cA, 480, .inl xx_l)), (q0e, .inl (cA, 480, .inl yy_l)), (q3, .inr (3, [.ref q3a, .int et_l, .int sp_l, .int ho_l, .int uw_l, .int mo_l, .int cs_l])), (q3a, .inl (cA, 250, .inl en_l))]) [0, 1, 2, 3, 4, 5, 6, 7, 8, 9, 10, 11, 12] rfl) hK (hD.sub (ws' := [(q1, .inr (1, [.ref q2, .ref q0, .ref q3, .int rf_l])), (q2, .inr (2, [.ref q2a, .ref q2b, .ref q2c, .int ma_l])), (q2a, .inl (cA, 6, .inl pl_l)), (q2b, .inl (cA, 60, .inl nu_l)), (q2c, .inl (cA, 60, .inl de_l)), (q0, .inr (0, [.ref q0a, .ref q0b, .ref q0c, .ref q0d, .ref q0e, .int to_l])), (q0a, .inl (cA, 40, .inl si_l)), (q0b, .inl (cA, 480, .inl ki_l)), (q0c, .inl (cA, 480, .inl aa_l)), (q0d, .inl (cA, 480, .inl xx_l)), (q0e, .inl (cA, 480, .inl yy_l)), (q3, .inr (3, [.ref q3a, .int et_l, .int sp_l, .int ho_l, .int uw_l, .int mo_l, .int cs_l])), (q3a, .inl (cA, 250, .inl en_l))]) [0, 1, 2, 3, 4, 5, 6, 7, 8, 9, 10, 11, 12] (by decide) rfl) (ci := 1) (q0 := 0) rfl rfl rfl) rfl rfl hl.1 rfl (lv_room (Nat.le_of_ble_eq_true rfl)) dX1_doSweep_38 ⟨Nat.zero_le _, Nat.zero_le _⟩) (fun u_6 H locs hw_6 hP hD hS => ?_)
            obtain ⟨rf_6, ma_6, pl_6, nu_6, de_6, to_6, si_6, ki_6, aa_6, xx_6, yy_6, et_6, sp_6, ho_6, uw_6, mo_6, cs_6, en_6⟩ := u_6
            have hP : va_P (dC, dI) vwCl [(q1, .inr (1, [.ref q2, .ref q0, .ref q3, .int rf_6])), (q2, .inr (2, [.ref q2a, .ref q2b, .ref q2c, .int ma_6])), (q2a, .inl (cA, 6, .inl pl_6)), (q2b, .inl (cA, 60, .inl nu_6)), (q2c, .inl (cA, 60, .inl de_6)), (q0, .inr (0, [.ref q0a, .ref q0b, .ref q0c, .ref q0d, .ref q0e, .int to_6])), (q0a, .inl (cA, 40, .inl si_6)), (q0b, .inl (cA, 480, .inl ki_6)), (q0c, .inl (cA, 480, .inl aa_6)), (q0d, .inl (cA, 480, .inl xx_6)), (q0e, .inl (cA, 480, .inl yy_6)), (q3, .inr (3, [.ref q3a, .int et_6, .int sp_6, .int ho_6, .int uw_6, .int mo_6, .int cs_6])), (q3a, .inl (cA, 250, .inl en_6))] H := hP
            have hD : va_D A [(q1, .inr (1, [.ref q2, .ref q0, .ref q3, .int rf_6])), (q2, .inr (2, [.ref q2a, .ref q2b, .ref q2c, .int ma_6])), (q2a, .inl (cA, 6, .inl pl_6)), (q2b, .inl (cA, 60, .inl nu_6)), (q2c, .inl (cA, 60, .inl de_6)), (q0, .inr (0, [.ref q0a, .ref q0b, .ref q0c, .ref q0d, .ref q0e, .int to_6])), (q0a, .inl (cA, 40, .inl si_6)), (q0b, .inl (cA, 480, .inl ki_6)), (q0c, .inl (cA, 480, .inl aa_6)), (q0d, .inl (cA, 480, .inl xx_6)), (q0e, .inl (cA, 480, .inl yy_6)), (q3, .inr (3, [.ref q3a, .int et_6, .int sp_6, .int ho_6, .int uw_6, .int mo_6, .int cs_6])), (q3a, .inl (cA, 250, .inl en_6))] := hD
            have hz_6 := begin_me hw_6
            have hma_6 : ma_6.toInt ≤ 60 := by rw [hz_6.1]; exact hma
            have hec_6 := et_up het hec hz_6.2 (by omega)
            have het_6 : 0 ≤ et_6.toInt := hec_6.1
            have hec_6 := hec_6.2
            refine lv_aload_n hx hb dX1_doSweep_41 rfl (lv_at hl 1 rfl) ?_
            refine va_get (D := (dC, dI)) (ci := 1) (v := .ref q2) (C := RX1) (T := TX1) (N := 4) hx hb hts (by decide +kernel) hown hK hP 0 rfl rfl 0 (by decide) (hts (.fieldLink RX1 9 RX1 "shelf" "LHoldBench$Shelf;") (by decide +kernel)) (fun _ h9 => h9) rfl dX1_doSweep_42 ?_
            refine lv_iload hx hb dX1_doSweep_45 (lv_at hl 0 rfl) ?_
            have hPc := hP.sub (ws' := [(q2, .inr (2, [.ref q2a, .ref q2b, .ref q2c, .int ma_6])), (q2a, .inl (cA, 6, .inl pl_6)), (q2b, .inl (cA, 60, .inl nu_6)), (q2c, .inl (cA, 60, .inl de_6))]) [1, 2, 3, 4] rfl
            refine kx_read (va_runVN (As := [.int (f_X2_thingIn ma_l pl_l nu_l de_l v4)]) (rest := []) ⟨hx, hb, hml, hown, hts⟩ (c_X2_numberOf l dC dI cA q2 q2a q2b q2c ma_6 pl_6 nu_6 de_6 (f_X2_thingIn ma_l pl_l nu_l de_l v4) hma_6) ⟨va_cnB 1 hts gX1_doSweep_X2_numberOf_n135 rfl rfl rfl (hN.at 24 rfl) (hts (.initialized RX2) (by decide +kernel)) (by decide +kernel) ⟨(Nat.le_of_ble_eq_true rfl), (Nat.le_of_ble_eq_true rfl)⟩, (hts (.instanceMethod yX2_numberOf) (by decide +kernel)), (hts (.selects RX2 yX2_numberOf yX2_numberOf) (by decide +kernel))⟩ (pR hN hPc hK (ci := 2) (q0 := 0) rfl rfl rfl) rfl rfl hl.1 rfl (lv_room (Nat.le_of_ble_eq_true rfl)) dX1_doSweep_47 ⟨Nat.zero_le _, Nat.zero_le _⟩) ?_
            refine lv_istore (lv' := [(6, .int (f_X2_numberOf ma_6 pl_6 nu_6 de_6 (f_X2_thingIn ma_l pl_l nu_l de_l v4))), (5, .int (f_X2_thingIn ma_l pl_l nu_l de_l v4)), (0, .ref q1), (1, .int v1), (2, .int v2), (3, .int v3), (4, .int v4)]) hx hb dX1_doSweep_50 hl (by decide) rfl (fun ls hl => ?_)
            refine lv_iload hx hb dX1_doSweep_52 (lv_at hl 0 rfl) ?_
            refine lv_iload_n hx hb dX1_doSweep_54 rfl (lv_at hl 3 rfl) ?_
            refine lv_icmp_eq (tgt := 74) hx hb dX1_doSweep_55 (by decide) (fun c_7 => ?_) (fun c_7 => ?_)
            · refine lv_aload_n hx hb dX1_doSweep_74 rfl (lv_at hl 2 rfl) ?_
              refine lv_iload hx hb dX1_doSweep_75 (lv_at hl 1 rfl) ?_
              refine lv_iconst (v := 0) hx hb dX1_doSweep_77 (by decide) ?_
              refine kx_wv (wr := []) hP hD hS hA [0, 1, 2, 3, 4, 5, 6, 7, 8, 9, 10, 11, 12] [] rfl rfl (by decide) (by decide) (va_runV (As := [.int (f_X2_thingIn ma_l pl_l nu_l de_l v4), .int 0]) (rest := []) ⟨hx, hb, hml, hown, hts⟩ (c_X1_leaveHold l dC dI cA q1 q2 q2a q2b q2c q0 q0a q0b q0c q0d q0e q3 q3a H.size rf_6 ma_6 pl_6 nu_6 de_6 to_6 si_6 ki_6 aa_6 xx_6 yy_6 et_6 sp_6 ho_6 uw_6 mo_6 cs_6 en_6 (f_X2_thingIn ma_l pl_l nu_l de_l v4) 0 hma_6 het_6) (cwV 2 hts gX1_doSweep_X1_leaveHold rfl rfl rfl (by decide +kernel) ⟨(Nat.le_of_ble_eq_true rfl), (Nat.le_of_ble_eq_true rfl)⟩) (pW hN (hP.sub (ws' := [(q1, .inr (1, [.ref q2, .ref q0, .ref q3, .int rf_6])), (q2, .inr (2, [.ref q2a, .ref q2b, .ref q2c, .int ma_6])), (q2a, .inl (cA, 6, .inl pl_6)), (q2b, .inl (cA, 60, .inl nu_6)), (q2c, .inl (cA, 60, .inl de_6)), (q0, .inr (0, [.ref q0a, .ref q0b, .ref q0c, .ref q0d, .ref q0e, .int to_6])), (q0a, .inl (cA, 40, .inl si_6)), (q0b, .inl (cA, 480, .inl ki_6)), (q0c, .inl (cA, 480, .inl aa_6)), (q0d, .inl (cA, 480, .inl xx_6)), (q0e, .inl (cA, 480, .inl yy_6)), (q3, .inr (3, [.ref q3a, .int et_6, .int sp_6, .int ho_6, .int uw_6, .int mo_6, .int cs_6])), (q3a, .inl (cA, 250, .inl en_6))]) [0, 1, 2, 3, 4, 5, 6, 7, 8, 9, 10, 11, 12] rfl) hK (hD.sub (ws' := [(q1, .inr (1, [.ref q2, .ref q0, .ref q3, .int rf_6])), (q2, .inr (2, [.ref q2a, .ref q2b, .ref q2c, .int ma_6])), (q2a, .inl (cA, 6, .inl pl_6)), (q2b, .inl (cA, 60, .inl nu_6)), (q2c, .inl (cA, 60, .inl de_6)), (q0, .inr (0, [.ref q0a, .ref q0b, .ref q0c, .ref q0d, .ref q0e, .int to_6])), (q0a, .inl (cA, 40, .inl si_6)), (q0b, .inl (cA, 480, .inl ki_6)), (q0c, .inl (cA, 480, .inl aa_6)), (q0d, .inl (cA, 480, .inl xx_6)), (q0e, .inl (cA, 480, .inl yy_6)), (q3, .inr (3, [.ref q3a, .int et_6, .int sp_6, .int ho_6, .int uw_6, .int mo_6, .int cs_6])), (q3a, .inl (cA, 250, .inl en_6))]) [0, 1, 2, 3, 4, 5, 6, 7, 8, 9, 10, 11, 12] (by decide) rfl) (ci := 1) (q0 := 0) rfl rfl rfl) rfl rfl hl.1 rfl (lv_room (Nat.le_of_ble_eq_true rfl)) dX1_doSweep_78 ⟨Nat.zero_le _, Nat.zero_le _⟩) (fun u_8 H locs hw_8 hP hD hS => ?_)
              obtain ⟨rf_8, ma_8, pl_8, nu_8, de_8, to_8, si_8, ki_8, aa_8, xx_8, yy_8, et_8, sp_8, ho_8, uw_8, mo_8, cs_8, en_8⟩ := u_8
              have hP : va_P (dC, dI) vwCl [(q1, .inr (1, [.ref q2, .ref q0, .ref q3, .int rf_8])), (q2, .inr (2, [.ref q2a, .ref q2b, .ref q2c, .int ma_8])), (q2a, .inl (cA, 6, .inl pl_8)), (q2b, .inl (cA, 60, .inl nu_8)), (q2c, .inl (cA, 60, .inl de_8)), (q0, .inr (0, [.ref q0a, .ref q0b, .ref q0c, .ref q0d, .ref q0e, .int to_8])), (q0a, .inl (cA, 40, .inl si_8)), (q0b, .inl (cA, 480, .inl ki_8)), (q0c, .inl (cA, 480, .inl aa_8)), (q0d, .inl (cA, 480, .inl xx_8)), (q0e, .inl (cA, 480, .inl yy_8)), (q3, .inr (3, [.ref q3a, .int et_8, .int sp_8, .int ho_8, .int uw_8, .int mo_8, .int cs_8])), (q3a, .inl (cA, 250, .inl en_8))] H := hP
              have hD : va_D A [(q1, .inr (1, [.ref q2, .ref q0, .ref q3, .int rf_8])), (q2, .inr (2, [.ref q2a, .ref q2b, .ref q2c, .int ma_8])), (q2a, .inl (cA, 6, .inl pl_8)), (q2b, .inl (cA, 60, .inl nu_8)), (q2c, .inl (cA, 60, .inl de_8)), (q0, .inr (0, [.ref q0a, .ref q0b, .ref q0c, .ref q0d, .ref q0e, .int to_8])), (q0a, .inl (cA, 40, .inl si_8)), (q0b, .inl (cA, 480, .inl ki_8)), (q0c, .inl (cA, 480, .inl aa_8)), (q0d, .inl (cA, 480, .inl xx_8)), (q0e, .inl (cA, 480, .inl yy_8)), (q3, .inr (3, [.ref q3a, .int et_8, .int sp_8, .int ho_8, .int uw_8, .int mo_8, .int cs_8])), (q3a, .inl (cA, 250, .inl en_8))] := hD
              have hz_8 := leave_me hw_8
              have hma_8 : ma_8.toInt ≤ 60 := by rw [hz_8.1]; exact hma_6
              have hec_8 := et_up het_6 hec_6 hz_8.2 (by omega)
              have het_8 : 0 ≤ et_8.toInt := hec_8.1
              have hec_8 := hec_8.2
              refine lv_iinc (v := (v4 + 1)) (lv' := [(4, .int (v4 + 1)), (6, .int (f_X2_numberOf ma_6 pl_6 nu_6 de_6 (f_X2_thingIn ma_l pl_l nu_l de_l v4))), (5, .int (f_X2_thingIn ma_l pl_l nu_l de_l v4)), (0, .ref q1), (1, .int v1), (2, .int v2), (3, .int v3)]) hx hb dX1_doSweep_81 hl (k := 6) rfl rfl (by decide) rfl (fun ls hl => ?_)
              refine lv_goto (tgt := 7) hx hb dX1_doSweep_84 (by decide) ?_
              exact ih v1 v2 v3 (v4 + 1) rf_8 ma_8 pl_8 nu_8 de_8 to_8 si_8 ki_8 aa_8 xx_8 yy_8 et_8 sp_8 ho_8 uw_8 mo_8 cs_8 en_8 ⟨k + 1, by have := lt_nI (by omega) hk2 c_1; omega, by rw [hk2]; exact nI_1 k, by omega, hma_8, het_8, by have := hec_8; omega⟩ (by rw [← hE]; simp only [L_X1_doSweep_7, if_neg c_1, if_pos c_3, if_neg c_5, ← hw_6, if_pos c_7, ← hw_8]) _ _ _ hP hD hS (lv_sub hl [3, 4, 5, 6, 0] rfl)
            · refine lv_iload_n hx hb dX1_doSweep_58 rfl (lv_at hl 4 rfl) ?_
              refine lv_iload hx hb dX1_doSweep_59 (lv_at hl 0 rfl) ?_
              refine lv_iadd hx hb dX1_doSweep_61 ?_
              refine lv_istore_n (lv' := [(2, .int (v2 + (f_X2_numberOf ma_6 pl_6 nu_6 de_6 (f_X2_thingIn ma_l pl_l nu_l de_l v4)))), (6, .int (f_X2_numberOf ma_6 pl_6 nu_6 de_6 (f_X2_thingIn ma_l pl_l nu_l de_l v4))), (5, .int (f_X2_thingIn ma_l pl_l nu_l de_l v4)), (0, .ref q1), (1, .int v1), (3, .int v3), (4, .int v4)]) hx hb dX1_doSweep_62 rfl hl (by decide) rfl (fun ls hl => ?_)
              refine lv_iload hx hb dX1_doSweep_63 (lv_at hl 1 rfl) ?_
              refine lv_if_ge (tgt := 72) hx hb dX1_doSweep_65 (by decide) (fun c_9 => ?_) (fun c_9 => ?_)
              · refine lv_iconst (v := 0) hx hb dX1_doSweep_72 (by decide) ?_
                refine lv_istore_n (lv' := [(3, .int 0), (2, .int (v2 + (f_X2_numberOf ma_6 pl_6 nu_6 de_6 (f_X2_thingIn ma_l pl_l nu_l de_l v4)))), (6, .int (f_X2_numberOf ma_6 pl_6 nu_6 de_6 (f_X2_thingIn ma_l pl_l nu_l de_l v4))), (5, .int (f_X2_thingIn ma_l pl_l nu_l de_l v4)), (0, .ref q1), (1, .int v1), (4, .int v4)]) hx hb dX1_doSweep_73 rfl hl (by decide) rfl (fun ls hl => ?_)
                refine lv_aload_n hx hb dX1_doSweep_74 rfl (lv_at hl 4 rfl) ?_
                refine lv_iload hx hb dX1_doSweep_75 (lv_at hl 3 rfl) ?_
                refine lv_iconst (v := 0) hx hb dX1_doSweep_77 (by decide) ?_
                refine kx_wv (wr := []) hP hD hS hA [0, 1, 2, 3, 4, 5, 6, 7, 8, 9, 10, 11, 12] [] rfl rfl (by decide) (by decide) (va_runV (As := [.int (f_X2_thingIn ma_l pl_l nu_l de_l v4), .int 0]) (rest := []) ⟨hx, hb, hml, hown, hts⟩ (c_X1_leaveHold l dC dI cA q1 q2 q2a q2b q2c q0 q0a q0b q0c q0d q0e q3 q3a H.size rf_6 ma_6 pl_6 nu_6 de_6 to_6 si_6 ki_6 aa_6 xx_6 yy_6 et_6 sp_6 ho_6 uw_6 mo_6 cs_6 en_6 (f_X2_thingIn ma_l pl_l nu_l de_l v4) 0 hma_6 het_6) (cwV 2 hts gX1_doSweep_X1_leaveHold rfl rfl rfl (by decide +kernel) ⟨(Nat.le_of_ble_eq_true rfl), (Nat.le_of_ble_eq_true rfl)⟩) (pW hN (hP.sub (ws' := [(q1, .inr (1, [.ref q2, .ref q0, .ref q3, .int rf_6])), (q2, .inr (2, [.ref q2a, .ref q2b, .ref q2c, .int ma_6])), (q2a, .inl (cA, 6, .inl pl_6)), (q2b, .inl (cA, 60, .inl nu_6)), (q2c, .inl (cA, 60, .inl de_6)), (q0, .inr (0, [.ref q0a, .ref q0b, .ref q0c, .ref q0d, .ref q0e, .int to_6])), (q0a, .inl (cA, 40, .inl si_6)), (q0b, .inl (cA, 480, .inl ki_6)), (q0c, .inl (cA, 480, .inl aa_6)), (q0d, .inl (cA, 480, .inl xx_6)), (q0e, .inl (cA, 480, .inl yy_6)), (q3, .inr (3, [.ref q3a, .int et_6, .int sp_6, .int ho_6, .int uw_6, .int mo_6, .int cs_6])), (q3a, .inl (cA, 250, .inl en_6))]) [0, 1, 2, 3, 4, 5, 6, 7, 8, 9, 10, 11, 12] rfl) hK (hD.sub (ws' := [(q1, .inr (1, [.ref q2, .ref q0, .ref q3, .int rf_6])), (q2, .inr (2, [.ref q2a, .ref q2b, .ref q2c, .int ma_6])), (q2a, .inl (cA, 6, .inl pl_6)), (q2b, .inl (cA, 60, .inl nu_6)), (q2c, .inl (cA, 60, .inl de_6)), (q0, .inr (0, [.ref q0a, .ref q0b, .ref q0c, .ref q0d, .ref q0e, .int to_6])), (q0a, .inl (cA, 40, .inl si_6)), (q0b, .inl (cA, 480, .inl ki_6)), (q0c, .inl (cA, 480, .inl aa_6)), (q0d, .inl (cA, 480, .inl xx_6)), (q0e, .inl (cA, 480, .inl yy_6)), (q3, .inr (3, [.ref q3a, .int et_6, .int sp_6, .int ho_6, .int uw_6, .int mo_6, .int cs_6])), (q3a, .inl (cA, 250, .inl en_6))]) [0, 1, 2, 3, 4, 5, 6, 7, 8, 9, 10, 11, 12] (by decide) rfl) (ci := 1) (q0 := 0) rfl rfl rfl) rfl rfl hl.1 rfl (lv_room (Nat.le_of_ble_eq_true rfl)) dX1_doSweep_78 ⟨Nat.zero_le _, Nat.zero_le _⟩) (fun u_10 H locs hw_10 hP hD hS => ?_)
                obtain ⟨rf_10, ma_10, pl_10, nu_10, de_10, to_10, si_10, ki_10, aa_10, xx_10, yy_10, et_10, sp_10, ho_10, uw_10, mo_10, cs_10, en_10⟩ := u_10
                have hP : va_P (dC, dI) vwCl [(q1, .inr (1, [.ref q2, .ref q0, .ref q3, .int rf_10])), (q2, .inr (2, [.ref q2a, .ref q2b, .ref q2c, .int ma_10])), (q2a, .inl (cA, 6, .inl pl_10)), (q2b, .inl (cA, 60, .inl nu_10)), (q2c, .inl (cA, 60, .inl de_10)), (q0, .inr (0, [.ref q0a, .ref q0b, .ref q0c, .ref q0d, .ref q0e, .int to_10])), (q0a, .inl (cA, 40, .inl si_10)), (q0b, .inl (cA, 480, .inl ki_10)), (q0c, .inl (cA, 480, .inl aa_10)), (q0d, .inl (cA, 480, .inl xx_10)), (q0e, .inl (cA, 480, .inl yy_10)), (q3, .inr (3, [.ref q3a, .int et_10, .int sp_10, .int ho_10, .int uw_10, .int mo_10, .int cs_10])), (q3a, .inl (cA, 250, .inl en_10))] H := hP
                have hD : va_D A [(q1, .inr (1, [.ref q2, .ref q0, .ref q3, .int rf_10])), (q2, .inr (2, [.ref q2a, .ref q2b, .ref q2c, .int ma_10])), (q2a, .inl (cA, 6, .inl pl_10)), (q2b, .inl (cA, 60, .inl nu_10)), (q2c, .inl (cA, 60, .inl de_10)), (q0, .inr (0, [.ref q0a, .ref q0b, .ref q0c, .ref q0d, .ref q0e, .int to_10])), (q0a, .inl (cA, 40, .inl si_10)), (q0b, .inl (cA, 480, .inl ki_10)), (q0c, .inl (cA, 480, .inl aa_10)), (q0d, .inl (cA, 480, .inl xx_10)), (q0e, .inl (cA, 480, .inl yy_10)), (q3, .inr (3, [.ref q3a, .int et_10, .int sp_10, .int ho_10, .int uw_10, .int mo_10, .int cs_10])), (q3a, .inl (cA, 250, .inl en_10))] := hD
                have hz_10 := leave_me hw_10
                have hma_10 : ma_10.toInt ≤ 60 := by rw [hz_10.1]; exact hma_6
                have hec_10 := et_up het_6 hec_6 hz_10.2 (by omega)
                have het_10 : 0 ≤ et_10.toInt := hec_10.1
                have hec_10 := hec_10.2
                refine lv_iinc (v := (v4 + 1)) (lv' := [(4, .int (v4 + 1)), (3, .int 0), (2, .int (v2 + (f_X2_numberOf ma_6 pl_6 nu_6 de_6 (f_X2_thingIn ma_l pl_l nu_l de_l v4)))), (6, .int (f_X2_numberOf ma_6 pl_6 nu_6 de_6 (f_X2_thingIn ma_l pl_l nu_l de_l v4))), (5, .int (f_X2_thingIn ma_l pl_l nu_l de_l v4)), (0, .ref q1), (1, .int v1)]) hx hb dX1_doSweep_81 hl (k := 6) rfl rfl (by decide) rfl (fun ls hl => ?_)
                refine lv_goto (tgt := 7) hx hb dX1_doSweep_84 (by decide) ?_
                exact ih v1 (v2 + (f_X2_numberOf ma_6 pl_6 nu_6 de_6 (f_X2_thingIn ma_l pl_l nu_l de_l v4))) 0 (v4 + 1) rf_10 ma_10 pl_10 nu_10 de_10 to_10 si_10 ki_10 aa_10 xx_10 yy_10 et_10 sp_10 ho_10 uw_10 mo_10 cs_10 en_10 ⟨k + 1, by have := lt_nI (by omega) hk2 c_1; omega, by rw [hk2]; exact nI_1 k, by omega, hma_10, het_10, by have := hec_10; omega⟩ (by rw [← hE]; simp only [L_X1_doSweep_7, if_neg c_1, if_pos c_3, if_neg c_5, ← hw_6, if_neg c_7, if_pos c_9, ← hw_10]) _ _ _ hP hD hS (lv_sub hl [5, 6, 2, 1, 0] rfl)
              · refine lv_iconst (v := 1) hx hb dX1_doSweep_68 (by decide) ?_
                refine lv_goto (tgt := 73) hx hb dX1_doSweep_69 (by decide) ?_
                refine lv_istore_n (lv' := [(3, .int 1), (2, .int (v2 + (f_X2_numberOf ma_6 pl_6 nu_6 de_6 (f_X2_thingIn ma_l pl_l nu_l de_l v4)))), (6, .int (f_X2_numberOf ma_6 pl_6 nu_6 de_6 (f_X2_thingIn ma_l pl_l nu_l de_l v4))), (5, .int (f_X2_thingIn ma_l pl_l nu_l de_l v4)), (0, .ref q1), (1, .int v1), (4, .int v4)]) hx hb dX1_doSweep_73 rfl hl (by decide) rfl (fun ls hl => ?_)
                refine lv_aload_n hx hb dX1_doSweep_74 rfl (lv_at hl 4 rfl) ?_
                refine lv_iload hx hb dX1_doSweep_75 (lv_at hl 3 rfl) ?_
                refine lv_iconst (v := 0) hx hb dX1_doSweep_77 (by decide) ?_
                refine kx_wv (wr := []) hP hD hS hA [0, 1, 2, 3, 4, 5, 6, 7, 8, 9, 10, 11, 12] [] rfl rfl (by decide) (by decide) (va_runV (As := [.int (f_X2_thingIn ma_l pl_l nu_l de_l v4), .int 0]) (rest := []) ⟨hx, hb, hml, hown, hts⟩ (c_X1_leaveHold l dC dI cA q1 q2 q2a q2b q2c q0 q0a q0b q0c q0d q0e q3 q3a H.size rf_6 ma_6 pl_6 nu_6 de_6 to_6 si_6 ki_6 aa_6 xx_6 yy_6 et_6 sp_6 ho_6 uw_6 mo_6 cs_6 en_6 (f_X2_thingIn ma_l pl_l nu_l de_l v4) 0 hma_6 het_6) (cwV 2 hts gX1_doSweep_X1_leaveHold rfl rfl rfl (by decide +kernel) ⟨(Nat.le_of_ble_eq_true rfl), (Nat.le_of_ble_eq_true rfl)⟩) (pW hN (hP.sub (ws' := [(q1, .inr (1, [.ref q2, .ref q0, .ref q3, .int rf_6])), (q2, .inr (2, [.ref q2a, .ref q2b, .ref q2c, .int ma_6])), (q2a, .inl (cA, 6, .inl pl_6)), (q2b, .inl (cA, 60, .inl nu_6)), (q2c, .inl (cA, 60, .inl de_6)), (q0, .inr (0, [.ref q0a, .ref q0b, .ref q0c, .ref q0d, .ref q0e, .int to_6])), (q0a, .inl (cA, 40, .inl si_6)), (q0b, .inl (cA, 480, .inl ki_6)), (q0c, .inl (cA, 480, .inl aa_6)), (q0d, .inl (cA, 480, .inl xx_6)), (q0e, .inl (cA, 480, .inl yy_6)), (q3, .inr (3, [.ref q3a, .int et_6, .int sp_6, .int ho_6, .int uw_6, .int mo_6, .int cs_6])), (q3a, .inl (cA, 250, .inl en_6))]) [0, 1, 2, 3, 4, 5, 6, 7, 8, 9, 10, 11, 12] rfl) hK (hD.sub (ws' := [(q1, .inr (1, [.ref q2, .ref q0, .ref q3, .int rf_6])), (q2, .inr (2, [.ref q2a, .ref q2b, .ref q2c, .int ma_6])), (q2a, .inl (cA, 6, .inl pl_6)), (q2b, .inl (cA, 60, .inl nu_6)), (q2c, .inl (cA, 60, .inl de_6)), (q0, .inr (0, [.ref q0a, .ref q0b, .ref q0c, .ref q0d, .ref q0e, .int to_6])), (q0a, .inl (cA, 40, .inl si_6)), (q0b, .inl (cA, 480, .inl ki_6)), (q0c, .inl (cA, 480, .inl aa_6)), (q0d, .inl (cA, 480, .inl xx_6)), (q0e, .inl (cA, 480, .inl yy_6)), (q3, .inr (3, [.ref q3a, .int et_6, .int sp_6, .int ho_6, .int uw_6, .int mo_6, .int cs_6])), (q3a, .inl (cA, 250, .inl en_6))]) [0, 1, 2, 3, 4, 5, 6, 7, 8, 9, 10, 11, 12] (by decide) rfl) (ci := 1) (q0 := 0) rfl rfl rfl) rfl rfl hl.1 rfl (lv_room (Nat.le_of_ble_eq_true rfl)) dX1_doSweep_78 ⟨Nat.zero_le _, Nat.zero_le _⟩) (fun u_11 H locs hw_11 hP hD hS => ?_)
                obtain ⟨rf_11, ma_11, pl_11, nu_11, de_11, to_11, si_11, ki_11, aa_11, xx_11, yy_11, et_11, sp_11, ho_11, uw_11, mo_11, cs_11, en_11⟩ := u_11
                have hP : va_P (dC, dI) vwCl [(q1, .inr (1, [.ref q2, .ref q0, .ref q3, .int rf_11])), (q2, .inr (2, [.ref q2a, .ref q2b, .ref q2c, .int ma_11])), (q2a, .inl (cA, 6, .inl pl_11)), (q2b, .inl (cA, 60, .inl nu_11)), (q2c, .inl (cA, 60, .inl de_11)), (q0, .inr (0, [.ref q0a, .ref q0b, .ref q0c, .ref q0d, .ref q0e, .int to_11])), (q0a, .inl (cA, 40, .inl si_11)), (q0b, .inl (cA, 480, .inl ki_11)), (q0c, .inl (cA, 480, .inl aa_11)), (q0d, .inl (cA, 480, .inl xx_11)), (q0e, .inl (cA, 480, .inl yy_11)), (q3, .inr (3, [.ref q3a, .int et_11, .int sp_11, .int ho_11, .int uw_11, .int mo_11, .int cs_11])), (q3a, .inl (cA, 250, .inl en_11))] H := hP
                have hD : va_D A [(q1, .inr (1, [.ref q2, .ref q0, .ref q3, .int rf_11])), (q2, .inr (2, [.ref q2a, .ref q2b, .ref q2c, .int ma_11])), (q2a, .inl (cA, 6, .inl pl_11)), (q2b, .inl (cA, 60, .inl nu_11)), (q2c, .inl (cA, 60, .inl de_11)), (q0, .inr (0, [.ref q0a, .ref q0b, .ref q0c, .ref q0d, .ref q0e, .int to_11])), (q0a, .inl (cA, 40, .inl si_11)), (q0b, .inl (cA, 480, .inl ki_11)), (q0c, .inl (cA, 480, .inl aa_11)), (q0d, .inl (cA, 480, .inl xx_11)), (q0e, .inl (cA, 480, .inl yy_11)), (q3, .inr (3, [.ref q3a, .int et_11, .int sp_11, .int ho_11, .int uw_11, .int mo_11, .int cs_11])), (q3a, .inl (cA, 250, .inl en_11))] := hD
                have hz_11 := leave_me hw_11
                have hma_11 : ma_11.toInt ≤ 60 := by rw [hz_11.1]; exact hma_6
                have hec_11 := et_up het_6 hec_6 hz_11.2 (by omega)
                have het_11 : 0 ≤ et_11.toInt := hec_11.1
                have hec_11 := hec_11.2
                refine lv_iinc (v := (v4 + 1)) (lv' := [(4, .int (v4 + 1)), (3, .int 1), (2, .int (v2 + (f_X2_numberOf ma_6 pl_6 nu_6 de_6 (f_X2_thingIn ma_l pl_l nu_l de_l v4)))), (6, .int (f_X2_numberOf ma_6 pl_6 nu_6 de_6 (f_X2_thingIn ma_l pl_l nu_l de_l v4))), (5, .int (f_X2_thingIn ma_l pl_l nu_l de_l v4)), (0, .ref q1), (1, .int v1)]) hx hb dX1_doSweep_81 hl (k := 6) rfl rfl (by decide) rfl (fun ls hl => ?_)
                refine lv_goto (tgt := 7) hx hb dX1_doSweep_84 (by decide) ?_
                exact ih v1 (v2 + (f_X2_numberOf ma_6 pl_6 nu_6 de_6 (f_X2_thingIn ma_l pl_l nu_l de_l v4))) 1 (v4 + 1) rf_11 ma_11 pl_11 nu_11 de_11 to_11 si_11 ki_11 aa_11 xx_11 yy_11 et_11 sp_11 ho_11 uw_11 mo_11 cs_11 en_11 ⟨k + 1, by have := lt_nI (by omega) hk2 c_1; omega, by rw [hk2]; exact nI_1 k, by omega, hma_11, het_11, by have := hec_11; omega⟩ (by rw [← hE]; simp only [L_X1_doSweep_7, if_neg c_1, if_pos c_3, if_neg c_5, ← hw_6, if_neg c_7, if_neg c_9, ← hw_11]) _ _ _ hP hD hS (lv_sub hl [5, 6, 2, 1, 0] rfl)
  exact hloop 7 p0 0 0 0 rf ma pl nu de to si ki aa xx yy et sp ho uw mo cs en ⟨0, by omega, nI_0.symm, by omega, hma, het, by omega⟩ (by simp only [f_X1_doSweep]) _ _ _ hP hD hS (lv_sub hl [3, 4, 2, 1, 0] rfl)
end
section
set_option maxHeartbeats 4000000 in
set_option maxRecDepth 100000 in
theorem c_X5_add (l : Launch) (dC : Nat → ClassId) (dI : Nat → Nat → Nat) (cA : ClassId) (q5 q5a q5b q5c q5d q5e q5f q5g q5h q5i : Nat) (sz : Nat) (th : Int32) (ma : Int32) (to : Int32) (rn : Int32) (rf : Int32) (et : Int32) (sp : Int32) (ho : Int32) (mo : Int32) (cs : Int32) (uw : Int32) (wh : Int32) (lo : Int32) (pl : Nat → Int32) (nu : Nat → Int32) (de : Nat → Int32) (si : Nat → Int32) (ki : Nat → Int32) (aa : Nat → Int32) (xx : Nat → Int32) (yy : Nat → Int32) (en : Nat → Int32) (p0 : Int32) (p1 : Int32) (hp0 : p0 = (-1) ∨ vp_in p0 60) : Met l yX5_add wsX5_add ({ frames := 1, cells := 0, slots := 0, locals := 21 }) (pcW (dC, dI) [(q5, .inr (5, [.int th, .ref q5a, .int ma, .ref q5b, .ref q5c, .int to, .ref q5d, .ref q5e, .ref q5f, .ref q5g, .ref q5h, .int rn, .int rf, .int et, .ref q5i, .int sp, .int ho, .int mo, .int cs, .int uw, .int wh, .int lo])), (q5a, .inl (cA, 6, .inl pl)), (q5b, .inl (cA, 60, .inl nu)), (q5c, .inl (cA, 60, .inl de)), (q5d, .inl (cA, 40, .inl si)), (q5e, .inl (cA, 480, .inl ki)), (q5f, .inl (cA, 480, .inl aa)), (q5g, .inl (cA, 480, .inl xx)), (q5h, .inl (cA, 480, .inl yy)), (q5i, .inl (cA, 250, .inl en))] [(cA, .int)] sz [.ref q5, .int p0, .int p1]) (QWi (dC, dI) (f_X5_add th ma to rn rf et sp ho mo cs uw wh lo pl nu de si ki aa xx yy en p0 p1) (wd_mo cA q5 q5a q5b q5c q5d q5e q5f q5g q5h q5i) (va_A [(q5, .inr (5, [.int th, .ref q5a, .int ma, .ref q5b, .ref q5c, .int to, .ref q5d, .ref q5e, .ref q5f, .ref q5g, .ref q5h, .int rn, .int rf, .int et, .ref q5i, .int sp, .int ho, .int mo, .int cs, .int uw, .int wh, .int lo])), (q5a, .inl (cA, 6, .inl pl)), (q5b, .inl (cA, 60, .inl nu)), (q5c, .inl (cA, 60, .inl de)), (q5d, .inl (cA, 40, .inl si)), (q5e, .inl (cA, 480, .inl ki)), (q5f, .inl (cA, 480, .inl aa)), (q5g, .inl (cA, 480, .inl xx)), (q5h, .inl (cA, 480, .inl yy)), (q5i, .inl (cA, 250, .inl en))] sz)) 0 0 (va_A [(q5, .inr (5, [.int th, .ref q5a, .int ma, .ref q5b, .ref q5c, .int to, .ref q5d, .ref q5e, .ref q5f, .ref q5g, .ref q5h, .int rn, .int rf, .int et, .ref q5i, .int sp, .int ho, .int mo, .int cs, .int uw, .int wh, .int lo])), (q5a, .inl (cA, 6, .inl pl)), (q5b, .inl (cA, 60, .inl nu)), (q5c, .inl (cA, 60, .inl de)), (q5d, .inl (cA, 40, .inl si)), (q5e, .inl (cA, 480, .inl ki)), (q5f, .inl (cA, 480, .inl aa)), (q5g, .inl (cA, 480, .inl xx)), (q5h, .inl (cA, 480, .inl yy)), (q5i, .inl (cA, 250, .inl en))] sz) := by
  refine Met.ofW (cc := cX5_add) (maxL := 3) (ret := (some .int)) (by decide) rfl ?_
  intro p e s m args below meth c s₁ B hml hv
  obtain ⟨rfl, hsz, hN, hP, hK, hD0⟩ := hv
  have hx := B.exec
  have hb := B.bytes
  have hr := B.returns
  have hts := atoms_spec (ws := wsX5_add) B.pre
  have hown : s.vm.findClass RX5 = some m.cls := findClass_of_methodNamed B.named
  have hlocks := B.notSynchronized
  subst hsz
  have hD := hD0.self (sz := s.heap.size)
  generalize hAe : va_A [(q5, .inr (5, [.int th, .ref q5a, .int ma, .ref q5b, .ref q5c, .int to, .ref q5d, .ref q5e, .ref q5f, .ref q5g, .ref q5h, .int rn, .int rf, .int et, .ref q5i, .int sp, .int ho, .int mo, .int cs, .int uw, .int wh, .int lo])), (q5a, .inl (cA, 6, .inl pl)), (q5b, .inl (cA, 60, .inl nu)), (q5c, .inl (cA, 60, .inl de)), (q5d, .inl (cA, 40, .inl si)), (q5e, .inl (cA, 480, .inl ki)), (q5f, .inl (cA, 480, .inl aa)), (q5g, .inl (cA, 480, .inl xx)), (q5h, .inl (cA, 480, .inl yy)), (q5i, .inl (cA, 250, .inl en))] s.heap.size = A at hD ⊢
  have hA : ∀ q : Nat, s.heap.size ≤ q → A q := fun q h => by rw [← hAe]; exact Or.inr h
  have hS : va_S A s.heap s.heap [] := va_S.rf
  have hl := lv_entry ([.ref q5, .int p0, .int p1]) (n := 3) (Nat.le_of_ble_eq_true rfl)
  rw [lg_entry_eq]
  generalize (lg_sl ([.ref q5, .int p0, .int p1]) ++ List.replicate (3 - (lg_sl ([.ref q5, .int p0, .int p1])).length) Slot.unset).toArray = ls at hl ⊢
  have hl : lv_has ls 3 [(0, .ref q5), (1, .int p0), (2, .int p1)] := hl
  refine lv_iload_n hx hb dX5_add_0 rfl (lv_at hl 1 rfl) ?_
  refine lv_iconst (v := (-1)) hx hb dX5_add_1 (by decide) ?_
  refine lv_icmp_ne (tgt := 12) hx hb dX5_add_2 (by decide) (fun c_1 => ?_) (fun c_1 => ?_)
  · refine lv_aload_n hx hb dX5_add_12 rfl (lv_at hl 0 rfl) ?_
    refine va_get (D := (dC, dI)) (ci := 5) (v := .ref q5c) (C := RX5) (T := TX5) (N := 22) hx hb hts (by decide +kernel) hown hK hP 0 rfl rfl 4 (by decide) (hts (.fieldLink RX5 16 RX5 "depth" "[I") (by decide +kernel)) (fun _ h9 => h9) rfl dX5_add_13 ?_
    refine lv_iload_n hx hb dX5_add_16 rfl (lv_at hl 1 rfl) ?_
    refine va_iald hx hb hK hP 3 0 rfl rfl (hp0.resolve_left c_1) dX5_add_17 ?_
    refine lv_if_ne (tgt := 28) hx hb dX5_add_18 (by decide) (fun c_2 => ?_) (fun c_2 => ?_)
    · refine lv_aload_n hx hb dX5_add_28 rfl (lv_at hl 0 rfl) ?_
      refine va_get (D := (dC, dI)) (ci := 5) (v := .ref q5b) (C := RX5) (T := TX5) (N := 22) hx hb hts (by decide +kernel) hown hK hP 0 rfl rfl 3 (by decide) (hts (.fieldLink RX5 13 RX5 "number" "[I") (by decide +kernel)) (fun _ h9 => h9) rfl dX5_add_29 ?_
      refine lv_iload_n hx hb dX5_add_32 rfl (lv_at hl 1 rfl) ?_
      refine lv_dup2_11 hx hb dX5_add_33 rfl rfl ?_
      refine va_iald hx hb hK hP 2 0 rfl rfl (hp0.resolve_left c_1) dX5_add_34 ?_
      refine lv_iload_n hx hb dX5_add_35 rfl (lv_at hl 2 rfl) ?_
      refine lv_iadd hx hb dX5_add_36 ?_
      refine va_iast hx hb hK hP hD hS 2 0 rfl rfl (hp0.resolve_left c_1) dX5_add_37 (fun H locs hP hD hS => ?_)
      have hP : va_P (dC, dI) vwCl [(q5, .inr (5, [.int th, .ref q5a, .int ma, .ref q5b, .ref q5c, .int to, .ref q5d, .ref q5e, .ref q5f, .ref q5g, .ref q5h, .int rn, .int rf, .int et, .ref q5i, .int sp, .int ho, .int mo, .int cs, .int uw, .int wh, .int lo])), (q5a, .inl (cA, 6, .inl pl)), (q5b, .inl (cA, 60, .inl (upd nu p0.toNatClampNeg ((nu p0.toNatClampNeg) + p1)))), (q5c, .inl (cA, 60, .inl de)), (q5d, .inl (cA, 40, .inl si)), (q5e, .inl (cA, 480, .inl ki)), (q5f, .inl (cA, 480, .inl aa)), (q5g, .inl (cA, 480, .inl xx)), (q5h, .inl (cA, 480, .inl yy)), (q5i, .inl (cA, 250, .inl en))] H := hP
      have hD : va_D A [(q5, .inr (5, [.int th, .ref q5a, .int ma, .ref q5b, .ref q5c, .int to, .ref q5d, .ref q5e, .ref q5f, .ref q5g, .ref q5h, .int rn, .int rf, .int et, .ref q5i, .int sp, .int ho, .int mo, .int cs, .int uw, .int wh, .int lo])), (q5a, .inl (cA, 6, .inl pl)), (q5b, .inl (cA, 60, .inl (upd nu p0.toNatClampNeg ((nu p0.toNatClampNeg) + p1)))), (q5c, .inl (cA, 60, .inl de)), (q5d, .inl (cA, 40, .inl si)), (q5e, .inl (cA, 480, .inl ki)), (q5f, .inl (cA, 480, .inl aa)), (q5g, .inl (cA, 480, .inl xx)), (q5h, .inl (cA, 480, .inl yy)), (q5i, .inl (cA, 250, .inl en))] := hD
      refine lv_iconst (v := 0) hx hb dX5_add_38 (by decide) ?_
      exact rt_i hx hb hr hlocks (th, ma, to, rn, rf, et, sp, ho, mo, cs, uw, wh, lo, pl, (upd nu p0.toNatClampNeg ((nu p0.toNatClampNeg) + p1)), de, si, ki, aa, xx, yy, en) (by simp only [f_X5_add, if_neg c_1, if_neg c_2]) hP hD hS dX5_add_39
    · refine lv_aload_n hx hb dX5_add_21 rfl (lv_at hl 0 rfl) ?_
      refine lv_bipush (v := 11) hx hb dX5_add_22 (by decide) ?_
      refine kx_wi (wr := []) hP hD hS hA [0, 1, 2, 3, 4, 5, 6, 7, 8, 9] [] rfl rfl (by decide) (by decide) (va_runV (As := [.int 11]) (rest := []) ⟨hx, hb, hml, hown, hts⟩ (c_X5_throwing l dC dI cA q5 q5a q5b q5c q5d q5e q5f q5g q5h q5i s.heap.size th ma to rn rf et sp ho mo cs uw wh lo pl nu de si ki aa xx yy en 11) (cwV 1 hts gX5_add_X5_throwing rfl rfl rfl (by decide +kernel) ⟨(Nat.le_of_ble_eq_true rfl), (Nat.le_of_ble_eq_true rfl)⟩) (pW hN (hP.sub (ws' := [(q5, .inr (5, [.int th, .ref q5a, .int ma, .ref q5b, .ref q5c, .int to, .ref q5d, .ref q5e, .ref q5f, .ref q5g, .ref q5h, .int rn, .int rf, .int et, .ref q5i, .int sp, .int ho, .int mo, .int cs, .int uw, .int wh, .int lo])), (q5a, .inl (cA, 6, .inl pl)), (q5b, .inl (cA, 60, .inl nu)), (q5c, .inl (cA, 60, .inl de)), (q5d, .inl (cA, 40, .inl si)), (q5e, .inl (cA, 480, .inl ki)), (q5f, .inl (cA, 480, .inl aa)), (q5g, .inl (cA, 480, .inl xx)), (q5h, .inl (cA, 480, .inl yy)), (q5i, .inl (cA, 250, .inl en))]) [0, 1, 2, 3, 4, 5, 6, 7, 8, 9] rfl) hK (hD.sub (ws' := [(q5, .inr (5, [.int th, .ref q5a, .int ma, .ref q5b, .ref q5c, .int to, .ref q5d, .ref q5e, .ref q5f, .ref q5g, .ref q5h, .int rn, .int rf, .int et, .ref q5i, .int sp, .int ho, .int mo, .int cs, .int uw, .int wh, .int lo])), (q5a, .inl (cA, 6, .inl pl)), (q5b, .inl (cA, 60, .inl nu)), (q5c, .inl (cA, 60, .inl de)), (q5d, .inl (cA, 40, .inl si)), (q5e, .inl (cA, 480, .inl ki)), (q5f, .inl (cA, 480, .inl aa)), (q5g, .inl (cA, 480, .inl xx)), (q5h, .inl (cA, 480, .inl yy)), (q5i, .inl (cA, 250, .inl en))]) [0, 1, 2, 3, 4, 5, 6, 7, 8, 9] (by decide) rfl) (ci := 5) (q0 := 0) rfl rfl rfl) rfl rfl hl.1 rfl (lv_room (Nat.le_of_ble_eq_true rfl)) dX5_add_24 ⟨Nat.zero_le _, Nat.zero_le _⟩) (fun r_3 u_3 H locs hw_3 hP hD hS => ?_)
      obtain ⟨th_3, ma_3, to_3, rn_3, rf_3, et_3, sp_3, ho_3, mo_3, cs_3, uw_3, wh_3, lo_3, pl_3, nu_3, de_3, si_3, ki_3, aa_3, xx_3, yy_3, en_3⟩ := u_3
      have hP : va_P (dC, dI) vwCl [(q5, .inr (5, [.int th_3, .ref q5a, .int ma_3, .ref q5b, .ref q5c, .int to_3, .ref q5d, .ref q5e, .ref q5f, .ref q5g, .ref q5h, .int rn_3, .int rf_3, .int et_3, .ref q5i, .int sp_3, .int ho_3, .int mo_3, .int cs_3, .int uw_3, .int wh_3, .int lo_3])), (q5a, .inl (cA, 6, .inl pl_3)), (q5b, .inl (cA, 60, .inl nu_3)), (q5c, .inl (cA, 60, .inl de_3)), (q5d, .inl (cA, 40, .inl si_3)), (q5e, .inl (cA, 480, .inl ki_3)), (q5f, .inl (cA, 480, .inl aa_3)), (q5g, .inl (cA, 480, .inl xx_3)), (q5h, .inl (cA, 480, .inl yy_3)), (q5i, .inl (cA, 250, .inl en_3))] H := hP
      have hD : va_D A [(q5, .inr (5, [.int th_3, .ref q5a, .int ma_3, .ref q5b, .ref q5c, .int to_3, .ref q5d, .ref q5e, .ref q5f, .ref q5g, .ref q5h, .int rn_3, .int rf_3, .int et_3, .ref q5i, .int sp_3, .int ho_3, .int mo_3, .int cs_3, .int uw_3, .int wh_3, .int lo_3])), (q5a, .inl (cA, 6, .inl pl_3)), (q5b, .inl (cA, 60, .inl nu_3)), (q5c, .inl (cA, 60, .inl de_3)), (q5d, .inl (cA, 40, .inl si_3)), (q5e, .inl (cA, 480, .inl ki_3)), (q5f, .inl (cA, 480, .inl aa_3)), (q5g, .inl (cA, 480, .inl xx_3)), (q5h, .inl (cA, 480, .inl yy_3)), (q5i, .inl (cA, 250, .inl en_3))] := hD
      exact rt_i hx hb hr hlocks (th_3, ma_3, to_3, rn_3, rf_3, et_3, sp_3, ho_3, mo_3, cs_3, uw_3, wh_3, lo_3, pl_3, nu_3, de_3, si_3, ki_3, aa_3, xx_3, yy_3, en_3) (by simp only [f_X5_add, if_neg c_1, if_pos c_2, ← hw_3]) hP hD hS dX5_add_27
  · refine lv_aload_n hx hb dX5_add_5 rfl (lv_at hl 0 rfl) ?_
    refine lv_bipush (v := 12) hx hb dX5_add_6 (by decide) ?_
    refine kx_wi (wr := []) hP hD hS hA [0, 1, 2, 3, 4, 5, 6, 7, 8, 9] [] rfl rfl (by decide) (by decide) (va_runV (As := [.int 12]) (rest := []) ⟨hx, hb, hml, hown, hts⟩ (c_X5_throwing l dC dI cA q5 q5a q5b q5c q5d q5e q5f q5g q5h q5i s.heap.size th ma to rn rf et sp ho mo cs uw wh lo pl nu de si ki aa xx yy en 12) (cwV 1 hts gX5_add_X5_throwing rfl rfl rfl (by decide +kernel) ⟨(Nat.le_of_ble_eq_true rfl), (Nat.le_of_ble_eq_true rfl)⟩) (pW hN (hP.sub (ws' := [(q5, .inr (5, [.int th, .ref q5a, .int ma, .ref q5b, .ref q5c, .int to, .ref q5d, .ref q5e, .ref q5f, .ref q5g, .ref q5h, .int rn, .int rf, .int et, .ref q5i, .int sp, .int ho, .int mo, .int cs, .int uw, .int wh, .int lo])), (q5a, .inl (cA, 6, .inl pl)), (q5b, .inl (cA, 60, .inl nu)), (q5c, .inl (cA, 60, .inl de)), (q5d, .inl (cA, 40, .inl si)), (q5e, .inl (cA, 480, .inl ki)), (q5f, .inl (cA, 480, .inl aa)), (q5g, .inl (cA, 480, .inl xx)), (q5h, .inl (cA, 480, .inl yy)), (q5i, .inl (cA, 250, .inl en))]) [0, 1, 2, 3, 4, 5, 6, 7, 8, 9] rfl) hK (hD.sub (ws' := [(q5, .inr (5, [.int th, .ref q5a, .int ma, .ref q5b, .ref q5c, .int to, .ref q5d, .ref q5e, .ref q5f, .ref q5g, .ref q5h, .int rn, .int rf, .int et, .ref q5i, .int sp, .int ho, .int mo, .int cs, .int uw, .int wh, .int lo])), (q5a, .inl (cA, 6, .inl pl)), (q5b, .inl (cA, 60, .inl nu)), (q5c, .inl (cA, 60, .inl de)), (q5d, .inl (cA, 40, .inl si)), (q5e, .inl (cA, 480, .inl ki)), (q5f, .inl (cA, 480, .inl aa)), (q5g, .inl (cA, 480, .inl xx)), (q5h, .inl (cA, 480, .inl yy)), (q5i, .inl (cA, 250, .inl en))]) [0, 1, 2, 3, 4, 5, 6, 7, 8, 9] (by decide) rfl) (ci := 5) (q0 := 0) rfl rfl rfl) rfl rfl hl.1 rfl (lv_room (Nat.le_of_ble_eq_true rfl)) dX5_add_8 ⟨Nat.zero_le _, Nat.zero_le _⟩) (fun r_4 u_4 H locs hw_4 hP hD hS => ?_)
    obtain ⟨th_4, ma_4, to_4, rn_4, rf_4, et_4, sp_4, ho_4, mo_4, cs_4, uw_4, wh_4, lo_4, pl_4, nu_4, de_4, si_4, ki_4, aa_4, xx_4, yy_4, en_4⟩ := u_4
    have hP : va_P (dC, dI) vwCl [(q5, .inr (5, [.int th_4, .ref q5a, .int ma_4, .ref q5b, .ref q5c, .int to_4, .ref q5d, .ref q5e, .ref q5f, .ref q5g, .ref q5h, .int rn_4, .int rf_4, .int et_4, .ref q5i, .int sp_4, .int ho_4, .int mo_4, .int cs_4, .int uw_4, .int wh_4, .int lo_4])), (q5a, .inl (cA, 6, .inl pl_4)), (q5b, .inl (cA, 60, .inl nu_4)), (q5c, .inl (cA, 60, .inl de_4)), (q5d, .inl (cA, 40, .inl si_4)), (q5e, .inl (cA, 480, .inl ki_4)), (q5f, .inl (cA, 480, .inl aa_4)), (q5g, .inl (cA, 480, .inl xx_4)), (q5h, .inl (cA, 480, .inl yy_4)), (q5i, .inl (cA, 250, .inl en_4))] H := hP
    have hD : va_D A [(q5, .inr (5, [.int th_4, .ref q5a, .int ma_4, .ref q5b, .ref q5c, .int to_4, .ref q5d, .ref q5e, .ref q5f, .ref q5g, .ref q5h, .int rn_4, .int rf_4, .int et_4, .ref q5i, .int sp_4, .int ho_4, .int mo_4, .int cs_4, .int uw_4, .int wh_4, .int lo_4])), (q5a, .inl (cA, 6, .inl pl_4)), (q5b, .inl (cA, 60, .inl nu_4)), (q5c, .inl (cA, 60, .inl de_4)), (q5d, .inl (cA, 40, .inl si_4)), (q5e, .inl (cA, 480, .inl ki_4)), (q5f, .inl (cA, 480, .inl aa_4)), (q5g, .inl (cA, 480, .inl xx_4)), (q5h, .inl (cA, 480, .inl yy_4)), (q5i, .inl (cA, 250, .inl en_4))] := hD
    exact rt_i hx hb hr hlocks (th_4, ma_4, to_4, rn_4, rf_4, et_4, sp_4, ho_4, mo_4, cs_4, uw_4, wh_4, lo_4, pl_4, nu_4, de_4, si_4, ki_4, aa_4, xx_4, yy_4, en_4) (by simp only [f_X5_add, if_pos c_1, ← hw_4]) hP hD hS dX5_add_11
set_option maxHeartbeats 4000000 in
set_option maxRecDepth 100000 in
theorem c_X5_sweep (l : Launch) (dC : Nat → ClassId) (dI : Nat → Nat → Nat) (cA : ClassId) (q5 q5a q5b q5c q5d q5e q5f q5g q5h q5i : Nat) (sz : Nat) (th : Int32) (ma : Int32) (to : Int32) (rn : Int32) (rf : Int32) (et : Int32) (sp : Int32) (ho : Int32) (mo : Int32) (cs : Int32) (uw : Int32) (wh : Int32) (lo : Int32) (pl : Nat → Int32) (nu : Nat → Int32) (de : Nat → Int32) (si : Nat → Int32) (ki : Nat → Int32) (aa : Nat → Int32) (xx : Nat → Int32) (yy : Nat → Int32) (en : Nat → Int32) (p0 : Int32) (hJ : J 0 ma et sp pl nu de si ki aa xx yy) : Met l yX5_sweep wsX5_sweep ({ frames := 2, cells := 0, slots := 0, locals := 43 }) (pcW (dC, dI) [(q5, .inr (5, [.int th, .ref q5a, .int ma, .ref q5b, .ref q5c, .int to, .ref q5d, .ref q5e, .ref q5f, .ref q5g, .ref q5h, .int rn, .int rf, .int et, .ref q5i, .int sp, .int ho, .int mo, .int cs, .int uw, .int wh, .int lo])), (q5a, .inl (cA, 6, .inl pl)), (q5b, .inl (cA, 60, .inl nu)), (q5c, .inl (cA, 60, .inl de)), (q5d, .inl (cA, 40, .inl si)), (q5e, .inl (cA, 480, .inl ki)), (q5f, .inl (cA, 480, .inl aa)), (q5g, .inl (cA, 480, .inl xx)), (q5h, .inl (cA, 480, .inl yy)), (q5i, .inl (cA, 250, .inl en))] [(cA, .int)] sz [.ref q5, .int p0]) (QWi (dC, dI) (f_X5_sweep th ma to rn rf et sp ho mo cs uw wh lo pl nu de si ki aa xx yy en p0) (wd_mo cA q5 q5a q5b q5c q5d q5e q5f q5g q5h q5i) (va_A [(q5, .inr (5, [.int th, .ref q5a, .int ma, .ref q5b, .ref q5c, .int to, .ref q5d, .ref q5e, .ref q5f, .ref q5g, .ref q5h, .int rn, .int rf, .int et, .ref q5i, .int sp, .int ho, .int mo, .int cs, .int uw, .int wh, .int lo])), (q5a, .inl (cA, 6, .inl pl)), (q5b, .inl (cA, 60, .inl nu)), (q5c, .inl (cA, 60, .inl de)), (q5d, .inl (cA, 40, .inl si)), (q5e, .inl (cA, 480, .inl ki)), (q5f, .inl (cA, 480, .inl aa)), (q5g, .inl (cA, 480, .inl xx)), (q5h, .inl (cA, 480, .inl yy)), (q5i, .inl (cA, 250, .inl en))] sz)) 0 0 (va_A [(q5, .inr (5, [.int th, .ref q5a, .int ma, .ref q5b, .ref q5c, .int to, .ref q5d, .ref q5e, .ref q5f, .ref q5g, .ref q5h, .int rn, .int rf, .int et, .ref q5i, .int sp, .int ho, .int mo, .int cs, .int uw, .int wh, .int lo])), (q5a, .inl (cA, 6, .inl pl)), (q5b, .inl (cA, 60, .inl nu)), (q5c, .inl (cA, 60, .inl de)), (q5d, .inl (cA, 40, .inl si)), (q5e, .inl (cA, 480, .inl ki)), (q5f, .inl (cA, 480, .inl aa)), (q5g, .inl (cA, 480, .inl xx)), (q5h, .inl (cA, 480, .inl yy)), (q5i, .inl (cA, 250, .inl en))] sz) := by
  refine Met.ofW (cc := cX5_sweep) (maxL := 6) (ret := (some .int)) (by decide) rfl ?_
  intro p e s m args below meth c s₁ B hml hv
  obtain ⟨rfl, hsz, hN, hP, hK, hD0⟩ := hv
  have hx := B.exec
  have hb := B.bytes
  have hr := B.returns
  have hts := atoms_spec (ws := wsX5_sweep) B.pre
  have hown : s.vm.findClass RX5 = some m.cls := findClass_of_methodNamed B.named
  have hlocks := B.notSynchronized
  subst hsz
  have hD := hD0.self (sz := s.heap.size)
  generalize hAe : va_A [(q5, .inr (5, [.int th, .ref q5a, .int ma, .ref q5b, .ref q5c, .int to, .ref q5d, .ref q5e, .ref q5f, .ref q5g, .ref q5h, .int rn, .int rf, .int et, .ref q5i, .int sp, .int ho, .int mo, .int cs, .int uw, .int wh, .int lo])), (q5a, .inl (cA, 6, .inl pl)), (q5b, .inl (cA, 60, .inl nu)), (q5c, .inl (cA, 60, .inl de)), (q5d, .inl (cA, 40, .inl si)), (q5e, .inl (cA, 480, .inl ki)), (q5f, .inl (cA, 480, .inl aa)), (q5g, .inl (cA, 480, .inl xx)), (q5h, .inl (cA, 480, .inl yy)), (q5i, .inl (cA, 250, .inl en))] s.heap.size = A at hD ⊢
  have hA : ∀ q : Nat, s.heap.size ≤ q → A q := fun q h => by rw [← hAe]; exact Or.inr h
  have hS : va_S A s.heap s.heap [] := va_S.rf
  have hl := lv_entry ([.ref q5, .int p0]) (n := 6) (Nat.le_of_ble_eq_true rfl)
  rw [lg_entry_eq]
  generalize (lg_sl ([.ref q5, .int p0]) ++ List.replicate (6 - (lg_sl ([.ref q5, .int p0])).length) Slot.unset).toArray = ls at hl ⊢
  have hl : lv_has ls 6 [(0, .ref q5), (1, .int p0)] := hl
  refine lv_iconst (v := 0) hx hb dX5_sweep_0 (by decide) ?_
  refine lv_istore_n (lv' := [(2, .int 0), (0, .ref q5), (1, .int p0)]) hx hb dX5_sweep_1 rfl hl (by decide) rfl (fun ls hl => ?_)
  refine lv_iconst (v := 1) hx hb dX5_sweep_2 (by decide) ?_
  refine lv_istore_n (lv' := [(3, .int 1), (2, .int 0), (0, .ref q5), (1, .int p0)]) hx hb dX5_sweep_3 rfl hl (by decide) rfl (fun ls hl => ?_)
  refine lv_iconst (v := 0) hx hb dX5_sweep_4 (by decide) ?_
  refine lv_istore (lv' := [(4, .int 0), (3, .int 1), (2, .int 0), (0, .ref q5), (1, .int p0)]) hx hb dX5_sweep_5 hl (by decide) rfl (fun ls hl => ?_)
  have hloop : ∀ (n : Nat) (v1 v2 v3 v4 : Int32) (th_l : Int32) (ma_l : Int32) (to_l : Int32) (rn_l : Int32) (rf_l : Int32) (et_l : Int32) (sp_l : Int32) (ho_l : Int32) (mo_l : Int32) (cs_l : Int32) (uw_l : Int32) (wh_l : Int32) (lo_l : Int32) (pl_l : Nat → Int32) (nu_l : Nat → Int32) (de_l : Nat → Int32) (si_l : Nat → Int32) (ki_l : Nat → Int32) (aa_l : Nat → Int32) (xx_l : Nat → Int32) (yy_l : Nat → Int32) (en_l : Nat → Int32), (∃ k : Nat, k ≤ 6 ∧ v4 = nI k ∧ 6 < k + n ∧ pl_l = pl ∧ 0 ≤ et_l.toInt ∧ et_l.toInt ≤ 5000 + 2 * (k : Int)) → L_X5_sweep_7 n v1 v2 v3 v4 th_l ma_l to_l rn_l rf_l et_l sp_l ho_l mo_l cs_l uw_l wh_l lo_l pl_l nu_l de_l si_l ki_l aa_l xx_l yy_l en_l = f_X5_sweep th ma to rn rf et sp ho mo cs uw wh lo pl nu de si ki aa xx yy en p0 → ∀ (H : Heap) (locs : List Loc) (ls : Array Slot), va_P (dC, dI) vwCl [(q5, .inr (5, [.int th_l, .ref q5a, .int ma_l, .ref q5b, .ref q5c, .int to_l, .ref q5d, .ref q5e, .ref q5f, .ref q5g, .ref q5h, .int rn_l, .int rf_l, .int et_l, .ref q5i, .int sp_l, .int ho_l, .int mo_l, .int cs_l, .int uw_l, .int wh_l, .int lo_l])), (q5a, .inl (cA, 6, .inl pl_l)), (q5b, .inl (cA, 60, .inl nu_l)), (q5c, .inl (cA, 60, .inl de_l)), (q5d, .inl (cA, 40, .inl si_l)), (q5e, .inl (cA, 480, .inl ki_l)), (q5f, .inl (cA, 480, .inl aa_l)), (q5g, .inl (cA, 480, .inl xx_l)), (q5h, .inl (cA, 480, .inl yy_l)), (q5i, .inl (cA, 250, .inl en_l))] H → va_D A [(q5, .inr (5, [.int th_l, .ref q5a, .int ma_l, .ref q5b, .ref q5c, .int to_l, .ref q5d, .ref q5e, .ref q5f, .ref q5g, .ref q5h, .int rn_l, .int rf_l, .int et_l, .ref q5i, .int sp_l, .int ho_l, .int mo_l, .int cs_l, .int uw_l, .int wh_l, .int lo_l])), (q5a, .inl (cA, 6, .inl pl_l)), (q5b, .inl (cA, 60, .inl nu_l)), (q5c, .inl (cA, 60, .inl de_l)), (q5d, .inl (cA, 40, .inl si_l)), (q5e, .inl (cA, 480, .inl ki_l)), (q5f, .inl (cA, 480, .inl aa_l)), (q5g, .inl (cA, 480, .inl xx_l)), (q5h, .inl (cA, 480, .inl yy_l)), (q5i, .inl (cA, 250, .inl en_l))] → va_S A s.heap H locs → lv_has ls 6 [(0, .ref q5), (1, .int v1), (2, .int v2), (3, .int v3), (4, .int v4)] → W p l e (headSpec wsX5_sweep ({ frames := 2, cells := 0, slots := 0, locals := 43 })).room s m ([.ref q5, .int p0] : List Value).toArray below meth c H locs 0 0 (MQ below (QWi (dC, dI) (f_X5_sweep th ma to rn rf et sp ho mo cs uw wh lo pl nu de si ki aa xx yy en p0) (wd_mo cA q5 q5a q5b q5c q5d q5e q5f q5g q5h q5i) A) ([.ref q5, .int p0] : List Value).toArray s 0 0 A) (F0 m 7 ls []) := by
    intro n
    induction n with
    | zero =>
      intro v1 v2 v3 v4 th_l ma_l to_l rn_l rf_l et_l sp_l ho_l mo_l cs_l uw_l wh_l lo_l pl_l nu_l de_l si_l ki_l aa_l xx_l yy_l en_l hI
      exact absurd hI (by rintro ⟨k, h1, -, h2, -⟩; omega)
    | succ n ih =>
      intro v1 v2 v3 v4 th_l ma_l to_l rn_l rf_l et_l sp_l ho_l mo_l cs_l uw_l wh_l lo_l pl_l nu_l de_l si_l ki_l aa_l xx_l yy_l en_l hI hE H locs ls hP hD hS hl
      obtain ⟨k, hk1, hk2, hk3, hpl, het, hec⟩ := hI
      refine lv_iload hx hb dX5_sweep_7 (lv_at hl 4 rfl) ?_
      refine lv_bipush (v := 6) hx hb dX5_sweep_9 (by decide) ?_
      refine lv_icmp_ge (tgt := 89) hx hb dX5_sweep_11 (by decide) (fun c_1 => ?_) (fun c_1 => ?_)
      · refine lv_aload_n hx hb dX5_sweep_89 rfl (lv_at hl 0 rfl) ?_
        refine lv_sipush (v := 10000) hx hb dX5_sweep_90 (by decide) ?_
        refine lv_iload_n hx hb dX5_sweep_93 rfl (lv_at hl 2 rfl) ?_
        refine lv_iadd hx hb dX5_sweep_94 ?_
        refine kx_wv (wr := []) hP hD hS hA [0, 1, 2, 3, 4, 5, 6, 7, 8, 9] [] rfl rfl (by decide) (by decide) (va_runV (As := [.int (10000 + v2)]) (rest := []) ⟨hx, hb, hml, hown, hts⟩ (c_X5_comes l dC dI cA q5 q5a q5b q5c q5d q5e q5f q5g q5h q5i H.size th_l ma_l to_l rn_l rf_l et_l sp_l ho_l mo_l cs_l uw_l wh_l lo_l pl_l nu_l de_l si_l ki_l aa_l xx_l yy_l en_l (10000 + v2) het) (cwV 1 hts gX5_sweep_X5_comes rfl rfl rfl (by decide +kernel) ⟨(Nat.le_of_ble_eq_true rfl), (Nat.le_of_ble_eq_true rfl)⟩) (pW hN (hP.sub (ws' := [(q5, .inr (5, [.int th_l, .ref q5a, .int ma_l, .ref q5b, .ref q5c, .int to_l, .ref q5d, .ref q5e, .ref q5f, .ref q5g, .ref q5h, .int rn_l, .int rf_l, .int et_l, .ref q5i, .int sp_l, .int ho_l, .int mo_l, .int cs_l, .int uw_l, .int wh_l, .int lo_l])), (q5a, .inl (cA, 6, .inl pl_l)), (q5b, .inl (cA, 60, .inl nu_l)), (q5c, .inl (cA, 60, .inl de_l)), (q5d, .inl (cA, 40, .inl si_l)), (q5e, .inl (cA, 480, .inl ki_l)), (q5f, .inl (cA, 480, .inl aa_l)), (q5g, .inl (cA, 480, .inl xx_l)), (q5h, .inl (cA, 480, .inl yy_l)), (q5i, .inl (cA, 250, .inl en_l))]) [0, 1, 2, 3, 4, 5, 6, 7, 8, 9] rfl) hK (hD.sub (ws' := [(q5, .inr (5, [.int th_l, .ref q5a, .int ma_l, .ref q5b, .ref q5c, .int to_l, .ref q5d, .ref q5e, .ref q5f, .ref q5g, .ref q5h, .int rn_l, .int rf_l, .int et_l, .ref q5i, .int sp_l, .int ho_l, .int mo_l, .int cs_l, .int uw_l, .int wh_l, .int lo_l])), (q5a, .inl (cA, 6, .inl pl_l)), (q5b, .inl (cA, 60, .inl nu_l)), (q5c, .inl (cA, 60, .inl de_l)), (q5d, .inl (cA, 40, .inl si_l)), (q5e, .inl (cA, 480, .inl ki_l)), (q5f, .inl (cA, 480, .inl aa_l)), (q5g, .inl (cA, 480, .inl xx_l)), (q5h, .inl (cA, 480, .inl yy_l)), (q5i, .inl (cA, 250, .inl en_l))]) [0, 1, 2, 3, 4, 5, 6, 7, 8, 9] (by decide) rfl) (ci := 5) (q0 := 0) rfl rfl rfl) rfl rfl hl.1 rfl (lv_room (Nat.le_of_ble_eq_true rfl)) dX5_sweep_95 ⟨Nat.zero_le _, Nat.zero_le _⟩) (fun u_2 H locs hw_2 hP hD hS => ?_)
        obtain ⟨th_2, ma_2, to_2, rn_2, rf_2, et_2, sp_2, ho_2, mo_2, cs_2, uw_2, wh_2, lo_2, pl_2, nu_2, de_2, si_2, ki_2, aa_2, xx_2, yy_2, en_2⟩ := u_2
        have hP : va_P (dC, dI) vwCl [(q5, .inr (5, [.int th_2, .ref q5a, .int ma_2, .ref q5b, .ref q5c, .int to_2, .ref q5d, .ref q5e, .ref q5f, .ref q5g, .ref q5h, .int rn_2, .int rf_2, .int et_2, .ref q5i, .int sp_2, .int ho_2, .int mo_2, .int cs_2, .int uw_2, .int wh_2, .int lo_2])), (q5a, .inl (cA, 6, .inl pl_2)), (q5b, .inl (cA, 60, .inl nu_2)), (q5c, .inl (cA, 60, .inl de_2)), (q5d, .inl (cA, 40, .inl si_2)), (q5e, .inl (cA, 480, .inl ki_2)), (q5f, .inl (cA, 480, .inl aa_2)), (q5g, .inl (cA, 480, .inl xx_2)), (q5h, .inl (cA, 480, .inl yy_2)), (q5i, .inl (cA, 250, .inl en_2))] H := hP
        have hD : va_D A [(q5, .inr (5, [.int th_2, .ref q5a, .int ma_2, .ref q5b, .ref q5c, .int to_2, .ref q5d, .ref q5e, .ref q5f, .ref q5g, .ref q5h, .int rn_2, .int rf_2, .int et_2, .ref q5i, .int sp_2, .int ho_2, .int mo_2, .int cs_2, .int uw_2, .int wh_2, .int lo_2])), (q5a, .inl (cA, 6, .inl pl_2)), (q5b, .inl (cA, 60, .inl nu_2)), (q5c, .inl (cA, 60, .inl de_2)), (q5d, .inl (cA, 40, .inl si_2)), (q5e, .inl (cA, 480, .inl ki_2)), (q5f, .inl (cA, 480, .inl aa_2)), (q5g, .inl (cA, 480, .inl xx_2)), (q5h, .inl (cA, 480, .inl yy_2)), (q5i, .inl (cA, 250, .inl en_2))] := hD
        refine lv_iconst (v := 0) hx hb dX5_sweep_98 (by decide) ?_
        exact rt_i hx hb hr hlocks (th_2, ma_2, to_2, rn_2, rf_2, et_2, sp_2, ho_2, mo_2, cs_2, uw_2, wh_2, lo_2, pl_2, nu_2, de_2, si_2, ki_2, aa_2, xx_2, yy_2, en_2) (by rw [← hE]; simp only [L_X5_sweep_7, if_pos c_1, ← hw_2]) hP hD hS dX5_sweep_99
      · refine lv_iload_n hx hb dX5_sweep_14 rfl (lv_at hl 3 rfl) ?_
        refine lv_if_eq (tgt := 89) hx hb dX5_sweep_15 (by decide) (fun c_3 => ?_) (fun c_3 => ?_)
        · refine lv_aload_n hx hb dX5_sweep_89 rfl (lv_at hl 0 rfl) ?_
          refine lv_sipush (v := 10000) hx hb dX5_sweep_90 (by decide) ?_
          refine lv_iload_n hx hb dX5_sweep_93 rfl (lv_at hl 2 rfl) ?_
          refine lv_iadd hx hb dX5_sweep_94 ?_
          refine kx_wv (wr := []) hP hD hS hA [0, 1, 2, 3, 4, 5, 6, 7, 8, 9] [] rfl rfl (by decide) (by decide) (va_runV (As := [.int (10000 + v2)]) (rest := []) ⟨hx, hb, hml, hown, hts⟩ (c_X5_comes l dC dI cA q5 q5a q5b q5c q5d q5e q5f q5g q5h q5i H.size th_l ma_l to_l rn_l rf_l et_l sp_l ho_l mo_l cs_l uw_l wh_l lo_l pl_l nu_l de_l si_l ki_l aa_l xx_l yy_l en_l (10000 + v2) het) (cwV 1 hts gX5_sweep_X5_comes rfl rfl rfl (by decide +kernel) ⟨(Nat.le_of_ble_eq_true rfl), (Nat.le_of_ble_eq_true rfl)⟩) (pW hN (hP.sub (ws' := [(q5, .inr (5, [.int th_l, .ref q5a, .int ma_l, .ref q5b, .ref q5c, .int to_l, .ref q5d, .ref q5e, .ref q5f, .ref q5g, .ref q5h, .int rn_l, .int rf_l, .int et_l, .ref q5i, .int sp_l, .int ho_l, .int mo_l, .int cs_l, .int uw_l, .int wh_l, .int lo_l])), (q5a, .inl (cA, 6, .inl pl_l)), (q5b, .inl (cA, 60, .inl nu_l)), (q5c, .inl (cA, 60, .inl de_l)), (q5d, .inl (cA, 40, .inl si_l)), (q5e, .inl (cA, 480, .inl ki_l)), (q5f, .inl (cA, 480, .inl aa_l)), (q5g, .inl (cA, 480, .inl xx_l)), (q5h, .inl (cA, 480, .inl yy_l)), (q5i, .inl (cA, 250, .inl en_l))]) [0, 1, 2, 3, 4, 5, 6, 7, 8, 9] rfl) hK (hD.sub (ws' := [(q5, .inr (5, [.int th_l, .ref q5a, .int ma_l, .ref q5b, .ref q5c, .int to_l, .ref q5d, .ref q5e, .ref q5f, .ref q5g, .ref q5h, .int rn_l, .int rf_l, .int et_l, .ref q5i, .int sp_l, .int ho_l, .int mo_l, .int cs_l, .int uw_l, .int wh_l, .int lo_l])), (q5a, .inl (cA, 6, .inl pl_l)), (q5b, .inl (cA, 60, .inl nu_l)), (q5c, .inl (cA, 60, .inl de_l)), (q5d, .inl (cA, 40, .inl si_l)), (q5e, .inl (cA, 480, .inl ki_l)), (q5f, .inl (cA, 480, .inl aa_l)), (q5g, .inl (cA, 480, .inl xx_l)), (q5h, .inl (cA, 480, .inl yy_l)), (q5i, .inl (cA, 250, .inl en_l))]) [0, 1, 2, 3, 4, 5, 6, 7, 8, 9] (by decide) rfl) (ci := 5) (q0 := 0) rfl rfl rfl) rfl rfl hl.1 rfl (lv_room (Nat.le_of_ble_eq_true rfl)) dX5_sweep_95 ⟨Nat.zero_le _, Nat.zero_le _⟩) (fun u_4 H locs hw_4 hP hD hS => ?_)
          obtain ⟨th_4, ma_4, to_4, rn_4, rf_4, et_4, sp_4, ho_4, mo_4, cs_4, uw_4, wh_4, lo_4, pl_4, nu_4, de_4, si_4, ki_4, aa_4, xx_4, yy_4, en_4⟩ := u_4
          have hP : va_P (dC, dI) vwCl [(q5, .inr (5, [.int th_4, .ref q5a, .int ma_4, .ref q5b, .ref q5c, .int to_4, .ref q5d, .ref q5e, .ref q5f, .ref q5g, .ref q5h, .int rn_4, .int rf_4, .int et_4, .ref q5i, .int sp_4, .int ho_4, .int mo_4, .int cs_4, .int uw_4, .int wh_4, .int lo_4])), (q5a, .inl (cA, 6, .inl pl_4)), (q5b, .inl (cA, 60, .inl nu_4)), (q5c, .inl (cA, 60, .inl de_4)), (q5d, .inl (cA, 40, .inl si_4)), (q5e, .inl (cA, 480, .inl ki_4)), (q5f, .inl (cA, 480, .inl aa_4)), (q5g, .inl (cA, 480, .inl xx_4)), (q5h, .inl (cA, 480, .inl yy_4)), (q5i, .inl (cA, 250, .inl en_4))] H := hP
          have hD : va_D A [(q5, .inr (5, [.int th_4, .ref q5a, .int ma_4, .ref q5b, .ref q5c, .int to_4, .ref q5d, .ref q5e, .ref q5f, .ref q5g, .ref q5h, .int rn_4, .int rf_4, .int et_4, .ref q5i, .int sp_4, .int ho_4, .int mo_4, .int cs_4, .int uw_4, .int wh_4, .int lo_4])), (q5a, .inl (cA, 6, .inl pl_4)), (q5b, .inl (cA, 60, .inl nu_4)), (q5c, .inl (cA, 60, .inl de_4)), (q5d, .inl (cA, 40, .inl si_4)), (q5e, .inl (cA, 480, .inl ki_4)), (q5f, .inl (cA, 480, .inl aa_4)), (q5g, .inl (cA, 480, .inl xx_4)), (q5h, .inl (cA, 480, .inl yy_4)), (q5i, .inl (cA, 250, .inl en_4))] := hD
          refine lv_iconst (v := 0) hx hb dX5_sweep_98 (by decide) ?_
          exact rt_i hx hb hr hlocks (th_4, ma_4, to_4, rn_4, rf_4, et_4, sp_4, ho_4, mo_4, cs_4, uw_4, wh_4, lo_4, pl_4, nu_4, de_4, si_4, ki_4, aa_4, xx_4, yy_4, en_4) (by rw [← hE]; simp only [L_X5_sweep_7, if_neg c_1, if_pos c_3, ← hw_4]) hP hD hS dX5_sweep_99
        · refine lv_aload_n hx hb dX5_sweep_18 rfl (lv_at hl 0 rfl) ?_
          refine va_get (D := (dC, dI)) (ci := 5) (v := .ref q5a) (C := RX5) (T := TX5) (N := 22) hx hb hts (by decide +kernel) hown hK hP 0 rfl rfl 1 (by decide) (hts (.fieldLink RX5 7 RX5 "placed" "[I") (by decide +kernel)) (fun _ h9 => h9) rfl dX5_sweep_19 ?_
          refine lv_iload hx hb dX5_sweep_22 (lv_at hl 4 rfl) ?_
          refine va_iald hx hb hK hP 1 0 rfl rfl (in6 (by omega) hk2 c_1) dX5_sweep_24 ?_
          refine lv_istore (lv' := [(5, .int (pl_l v4.toNatClampNeg)), (0, .ref q5), (1, .int v1), (2, .int v2), (3, .int v3), (4, .int v4)]) hx hb dX5_sweep_25 hl (by decide) rfl (fun ls hl => ?_)
          refine lv_iload hx hb dX5_sweep_27 (lv_at hl 0 rfl) ?_
          refine lv_iconst (v := (-1)) hx hb dX5_sweep_29 (by decide) ?_
          refine lv_icmp_eq (tgt := 83) hx hb dX5_sweep_30 (by decide) (fun c_5 => ?_) (fun c_5 => ?_)
          · refine lv_iinc (v := (v4 + 1)) (lv' := [(4, .int (v4 + 1)), (5, .int (pl_l v4.toNatClampNeg)), (0, .ref q5), (1, .int v1), (2, .int v2), (3, .int v3)]) hx hb dX5_sweep_83 hl (k := 5) rfl rfl (by decide) rfl (fun ls hl => ?_)
            refine lv_goto (tgt := 7) hx hb dX5_sweep_86 (by decide) ?_
            exact ih v1 v2 v3 (v4 + 1) th_l ma_l to_l rn_l rf_l et_l sp_l ho_l mo_l cs_l uw_l wh_l lo_l pl_l nu_l de_l si_l ki_l aa_l xx_l yy_l en_l ⟨k + 1, by have := lt_nI (by omega) hk2 c_1; omega, by rw [hk2]; exact nI_1 k, by omega, hpl, het, by have := hec; omega⟩ (by rw [← hE]; simp only [L_X5_sweep_7, if_neg c_1, if_neg c_3, if_pos c_5]) _ _ _ hP hD hS (lv_sub hl [2, 3, 4, 5, 0] rfl)
          · refine lv_aload_n hx hb dX5_sweep_33 rfl (lv_at hl 1 rfl) ?_
            refine lv_iload hx hb dX5_sweep_34 (lv_at hl 0 rfl) ?_
            refine kx_wv (wr := []) hP hD hS hA [0, 1, 2, 3, 4, 5, 6, 7, 8, 9] [] rfl rfl (by decide) (by decide) (va_runV (As := [.int (pl_l v4.toNatClampNeg)]) (rest := []) ⟨hx, hb, hml, hown, hts⟩ (c_X5_begin l dC dI cA q5 q5a q5b q5c q5d q5e q5f q5g q5h q5i H.size th_l ma_l to_l rn_l rf_l et_l sp_l ho_l mo_l cs_l uw_l wh_l lo_l pl_l nu_l de_l si_l ki_l aa_l xx_l yy_l en_l (pl_l v4.toNatClampNeg) (pl_in hJ hpl (by omega) hk2 c_1 c_5) het) (cwV 1 hts gX5_sweep_X5_begin rfl rfl rfl (by decide +kernel) ⟨(Nat.le_of_ble_eq_true rfl), (Nat.le_of_ble_eq_true rfl)⟩) (pW hN (hP.sub (ws' := [(q5, .inr (5, [.int th_l, .ref q5a, .int ma_l, .ref q5b, .ref q5c, .int to_l, .ref q5d, .ref q5e, .ref q5f, .ref q5g, .ref q5h, .int rn_l, .int rf_l, .int et_l, .ref q5i, .int sp_l, .int ho_l, .int mo_l, .int cs_l, .int uw_l, .int wh_l, .int lo_l])), (q5a, .inl (cA, 6, .inl pl_l)), (q5b, .inl (cA, 60, .inl nu_l)), (q5c, .inl (cA, 60, .inl de_l)), (q5d, .inl (cA, 40, .inl si_l)), (q5e, .inl (cA, 480, .inl ki_l)), (q5f, .inl (cA, 480, .inl aa_l)), (q5g, .inl (cA, 480, .inl xx_l)), (q5h, .inl (cA, 480, .inl yy_l)), (q5i, .inl (cA, 250, .inl en_l))]) [0, 1, 2, 3, 4, 5, 6, 7, 8, 9] rfl) hK (hD.sub (ws' := [(q5, .inr (5, [.int th_l, .ref q5a, .int ma_l, .ref q5b, .ref q5c, .int to_l, .ref q5d, .ref q5e, .ref q5f, .ref q5g, .ref q5h, .int rn_l, .int rf_l, .int et_l, .ref q5i, .int sp_l, .int ho_l, .int mo_l, .int cs_l, .int uw_l, .int wh_l, .int lo_l])), (q5a, .inl (cA, 6, .inl pl_l)), (q5b, .inl (cA, 60, .inl nu_l)), (q5c, .inl (cA, 60, .inl de_l)), (q5d, .inl (cA, 40, .inl si_l)), (q5e, .inl (cA, 480, .inl ki_l)), (q5f, .inl (cA, 480, .inl aa_l)), (q5g, .inl (cA, 480, .inl xx_l)), (q5h, .inl (cA, 480, .inl yy_l)), (q5i, .inl (cA, 250, .inl en_l))]) [0, 1, 2, 3, 4, 5, 6, 7, 8, 9] (by decide) rfl) (ci := 5) (q0 := 0) rfl rfl rfl) rfl rfl hl.1 rfl (lv_room (Nat.le_of_ble_eq_true rfl)) dX5_sweep_36 ⟨Nat.zero_le _, Nat.zero_le _⟩) (fun u_6 H locs hw_6 hP hD hS => ?_)
            obtain ⟨th_6, ma_6, to_6, rn_6, rf_6, et_6, sp_6, ho_6, mo_6, cs_6, uw_6, wh_6, lo_6, pl_6, nu_6, de_6, si_6, ki_6, aa_6, xx_6, yy_6, en_6⟩ := u_6
            have hP : va_P (dC, dI) vwCl [(q5, .inr (5, [.int th_6, .ref q5a, .int ma_6, .ref q5b, .ref q5c, .int to_6, .ref q5d, .ref q5e, .ref q5f, .ref q5g, .ref q5h, .int rn_6, .int rf_6, .int et_6, .ref q5i, .int sp_6, .int ho_6, .int mo_6, .int cs_6, .int uw_6, .int wh_6, .int lo_6])), (q5a, .inl (cA, 6, .inl pl_6)), (q5b, .inl (cA, 60, .inl nu_6)), (q5c, .inl (cA, 60, .inl de_6)), (q5d, .inl (cA, 40, .inl si_6)), (q5e, .inl (cA, 480, .inl ki_6)), (q5f, .inl (cA, 480, .inl aa_6)), (q5g, .inl (cA, 480, .inl xx_6)), (q5h, .inl (cA, 480, .inl yy_6)), (q5i, .inl (cA, 250, .inl en_6))] H := hP
            have hD : va_D A [(q5, .inr (5, [.int th_6, .ref q5a, .int ma_6, .ref q5b, .ref q5c, .int to_6, .ref q5d, .ref q5e, .ref q5f, .ref q5g, .ref q5h, .int rn_6, .int rf_6, .int et_6, .ref q5i, .int sp_6, .int ho_6, .int mo_6, .int cs_6, .int uw_6, .int wh_6, .int lo_6])), (q5a, .inl (cA, 6, .inl pl_6)), (q5b, .inl (cA, 60, .inl nu_6)), (q5c, .inl (cA, 60, .inl de_6)), (q5d, .inl (cA, 40, .inl si_6)), (q5e, .inl (cA, 480, .inl ki_6)), (q5f, .inl (cA, 480, .inl aa_6)), (q5g, .inl (cA, 480, .inl xx_6)), (q5h, .inl (cA, 480, .inl yy_6)), (q5i, .inl (cA, 250, .inl en_6))] := hD
            have hz_6 := begin_mm hw_6
            have hpl_6 : pl_6 = pl := hz_6.1.trans hpl
            have hec_6 := et_up het hec hz_6.2 (by omega)
            have het_6 : 0 ≤ et_6.toInt := hec_6.1
            have hec_6 := hec_6.2
            refine lv_aload_n hx hb dX5_sweep_39 rfl (lv_at hl 1 rfl) ?_
            refine va_get (D := (dC, dI)) (ci := 5) (v := .ref q5b) (C := RX5) (T := TX5) (N := 22) hx hb hts (by decide +kernel) hown hK hP 0 rfl rfl 3 (by decide) (hts (.fieldLink RX5 13 RX5 "number" "[I") (by decide +kernel)) (fun _ h9 => h9) rfl dX5_sweep_40 ?_
            refine lv_iload hx hb dX5_sweep_43 (lv_at hl 0 rfl) ?_
            refine va_iald hx hb hK hP 2 0 rfl rfl (pl_in hJ hpl (by omega) hk2 c_1 c_5) dX5_sweep_45 ?_
            refine lv_iload_n hx hb dX5_sweep_46 rfl (lv_at hl 2 rfl) ?_
            refine lv_icmp_eq (tgt := 76) hx hb dX5_sweep_47 (by decide) (fun c_7 => ?_) (fun c_7 => ?_)
            · refine lv_aload_n hx hb dX5_sweep_76 rfl (lv_at hl 1 rfl) ?_
              refine lv_iload hx hb dX5_sweep_77 (lv_at hl 0 rfl) ?_
              refine lv_iconst (v := 0) hx hb dX5_sweep_79 (by decide) ?_
              refine kx_wv (wr := []) hP hD hS hA [0, 1, 2, 3, 4, 5, 6, 7, 8, 9] [] rfl rfl (by decide) (by decide) (va_runV (As := [.int (pl_l v4.toNatClampNeg), .int 0]) (rest := []) ⟨hx, hb, hml, hown, hts⟩ (c_X5_leave l dC dI cA q5 q5a q5b q5c q5d q5e q5f q5g q5h q5i H.size th_6 ma_6 to_6 rn_6 rf_6 et_6 sp_6 ho_6 mo_6 cs_6 uw_6 wh_6 lo_6 pl_6 nu_6 de_6 si_6 ki_6 aa_6 xx_6 yy_6 en_6 (pl_l v4.toNatClampNeg) 0 (pl_in hJ hpl (by omega) hk2 c_1 c_5) het_6) (cwV 2 hts gX5_sweep_X5_leave rfl rfl rfl (by decide +kernel) ⟨(Nat.le_of_ble_eq_true rfl), (Nat.le_of_ble_eq_true rfl)⟩) (pW hN (hP.sub (ws' := [(q5, .inr (5, [.int th_6, .ref q5a, .int ma_6, .ref q5b, .ref q5c, .int to_6, .ref q5d, .ref q5e, .ref q5f, .ref q5g, .ref q5h, .int rn_6, .int rf_6, .int et_6, .ref q5i, .int sp_6, .int ho_6, .int mo_6, .int cs_6, .int uw_6, .int wh_6, .int lo_6])), (q5a, .inl (cA, 6, .inl pl_6)), (q5b, .inl (cA, 60, .inl nu_6)), (q5c, .inl (cA, 60, .inl de_6)), (q5d, .inl (cA, 40, .inl si_6)), (q5e, .inl (cA, 480, .inl ki_6)), (q5f, .inl (cA, 480, .inl aa_6)), (q5g, .inl (cA, 480, .inl xx_6)), (q5h, .inl (cA, 480, .inl yy_6)), (q5i, .inl (cA, 250, .inl en_6))]) [0, 1, 2, 3, 4, 5, 6, 7, 8, 9] rfl) hK (hD.sub (ws' := [(q5, .inr (5, [.int th_6, .ref q5a, .int ma_6, .ref q5b, .ref q5c, .int to_6, .ref q5d, .ref q5e, .ref q5f, .ref q5g, .ref q5h, .int rn_6, .int rf_6, .int et_6, .ref q5i, .int sp_6, .int ho_6, .int mo_6, .int cs_6, .int uw_6, .int wh_6, .int lo_6])), (q5a, .inl (cA, 6, .inl pl_6)), (q5b, .inl (cA, 60, .inl nu_6)), (q5c, .inl (cA, 60, .inl de_6)), (q5d, .inl (cA, 40, .inl si_6)), (q5e, .inl (cA, 480, .inl ki_6)), (q5f, .inl (cA, 480, .inl aa_6)), (q5g, .inl (cA, 480, .inl xx_6)), (q5h, .inl (cA, 480, .inl yy_6)), (q5i, .inl (cA, 250, .inl en_6))]) [0, 1, 2, 3, 4, 5, 6, 7, 8, 9] (by decide) rfl) (ci := 5) (q0 := 0) rfl rfl rfl) rfl rfl hl.1 rfl (lv_room (Nat.le_of_ble_eq_true rfl)) dX5_sweep_80 ⟨Nat.zero_le _, Nat.zero_le _⟩) (fun u_8 H locs hw_8 hP hD hS => ?_)
              obtain ⟨th_8, ma_8, to_8, rn_8, rf_8, et_8, sp_8, ho_8, mo_8, cs_8, uw_8, wh_8, lo_8, pl_8, nu_8, de_8, si_8, ki_8, aa_8, xx_8, yy_8, en_8⟩ := u_8
              have hP : va_P (dC, dI) vwCl [(q5, .inr (5, [.int th_8, .ref q5a, .int ma_8, .ref q5b, .ref q5c, .int to_8, .ref q5d, .ref q5e, .ref q5f, .ref q5g, .ref q5h, .int rn_8, .int rf_8, .int et_8, .ref q5i, .int sp_8, .int ho_8, .int mo_8, .int cs_8, .int uw_8, .int wh_8, .int lo_8])), (q5a, .inl (cA, 6, .inl pl_8)), (q5b, .inl (cA, 60, .inl nu_8)), (q5c, .inl (cA, 60, .inl de_8)), (q5d, .inl (cA, 40, .inl si_8)), (q5e, .inl (cA, 480, .inl ki_8)), (q5f, .inl (cA, 480, .inl aa_8)), (q5g, .inl (cA, 480, .inl xx_8)), (q5h, .inl (cA, 480, .inl yy_8)), (q5i, .inl (cA, 250, .inl en_8))] H := hP
              have hD : va_D A [(q5, .inr (5, [.int th_8, .ref q5a, .int ma_8, .ref q5b, .ref q5c, .int to_8, .ref q5d, .ref q5e, .ref q5f, .ref q5g, .ref q5h, .int rn_8, .int rf_8, .int et_8, .ref q5i, .int sp_8, .int ho_8, .int mo_8, .int cs_8, .int uw_8, .int wh_8, .int lo_8])), (q5a, .inl (cA, 6, .inl pl_8)), (q5b, .inl (cA, 60, .inl nu_8)), (q5c, .inl (cA, 60, .inl de_8)), (q5d, .inl (cA, 40, .inl si_8)), (q5e, .inl (cA, 480, .inl ki_8)), (q5f, .inl (cA, 480, .inl aa_8)), (q5g, .inl (cA, 480, .inl xx_8)), (q5h, .inl (cA, 480, .inl yy_8)), (q5i, .inl (cA, 250, .inl en_8))] := hD
              have hz_8 := leave_mm hw_8
              have hpl_8 : pl_8 = pl := hz_8.1.trans hpl_6
              have hec_8 := et_up het_6 hec_6 hz_8.2 (by omega)
              have het_8 : 0 ≤ et_8.toInt := hec_8.1
              have hec_8 := hec_8.2
              refine lv_iinc (v := (v4 + 1)) (lv' := [(4, .int (v4 + 1)), (5, .int (pl_l v4.toNatClampNeg)), (0, .ref q5), (1, .int v1), (2, .int v2), (3, .int v3)]) hx hb dX5_sweep_83 hl (k := 5) rfl rfl (by decide) rfl (fun ls hl => ?_)
              refine lv_goto (tgt := 7) hx hb dX5_sweep_86 (by decide) ?_
              exact ih v1 v2 v3 (v4 + 1) th_8 ma_8 to_8 rn_8 rf_8 et_8 sp_8 ho_8 mo_8 cs_8 uw_8 wh_8 lo_8 pl_8 nu_8 de_8 si_8 ki_8 aa_8 xx_8 yy_8 en_8 ⟨k + 1, by have := lt_nI (by omega) hk2 c_1; omega, by rw [hk2]; exact nI_1 k, by omega, hpl_8, het_8, by have := hec_8; omega⟩ (by rw [← hE]; simp only [L_X5_sweep_7, if_neg c_1, if_neg c_3, if_neg c_5, ← hw_6, if_pos c_7, ← hw_8]) _ _ _ hP hD hS (lv_sub hl [2, 3, 4, 5, 0] rfl)
            · refine lv_iload_n hx hb dX5_sweep_50 rfl (lv_at hl 3 rfl) ?_
              refine lv_aload_n hx hb dX5_sweep_51 rfl (lv_at hl 1 rfl) ?_
              refine va_get (D := (dC, dI)) (ci := 5) (v := .ref q5b) (C := RX5) (T := TX5) (N := 22) hx hb hts (by decide +kernel) hown hK hP 0 rfl rfl 3 (by decide) (hts (.fieldLink RX5 13 RX5 "number" "[I") (by decide +kernel)) (fun _ h9 => h9) rfl dX5_sweep_52 ?_
              refine lv_iload hx hb dX5_sweep_55 (lv_at hl 0 rfl) ?_
              refine va_iald hx hb hK hP 2 0 rfl rfl (pl_in hJ hpl (by omega) hk2 c_1 c_5) dX5_sweep_57 ?_
              refine lv_iadd hx hb dX5_sweep_58 ?_
              refine lv_istore_n (lv' := [(2, .int (v2 + (nu_6 (pl_l v4.toNatClampNeg).toNatClampNeg))), (5, .int (pl_l v4.toNatClampNeg)), (0, .ref q5), (1, .int v1), (3, .int v3), (4, .int v4)]) hx hb dX5_sweep_59 rfl hl (by decide) rfl (fun ls hl => ?_)
              refine lv_aload_n hx hb dX5_sweep_60 rfl (lv_at hl 2 rfl) ?_
              refine va_get (D := (dC, dI)) (ci := 5) (v := .ref q5b) (C := RX5) (T := TX5) (N := 22) hx hb hts (by decide +kernel) hown hK hP 0 rfl rfl 3 (by decide) (hts (.fieldLink RX5 13 RX5 "number" "[I") (by decide +kernel)) (fun _ h9 => h9) rfl dX5_sweep_61 ?_
              refine lv_iload hx hb dX5_sweep_64 (lv_at hl 1 rfl) ?_
              refine va_iald hx hb hK hP 2 0 rfl rfl (pl_in hJ hpl (by omega) hk2 c_1 c_5) dX5_sweep_66 ?_
              refine lv_if_lt (tgt := 74) hx hb dX5_sweep_67 (by decide) (fun c_9 => ?_) (fun c_9 => ?_)
              · refine lv_iconst (v := 0) hx hb dX5_sweep_74 (by decide) ?_
                refine lv_istore_n (lv' := [(3, .int 0), (2, .int (v2 + (nu_6 (pl_l v4.toNatClampNeg).toNatClampNeg))), (5, .int (pl_l v4.toNatClampNeg)), (0, .ref q5), (1, .int v1), (4, .int v4)]) hx hb dX5_sweep_75 rfl hl (by decide) rfl (fun ls hl => ?_)
                refine lv_aload_n hx hb dX5_sweep_76 rfl (lv_at hl 3 rfl) ?_
                refine lv_iload hx hb dX5_sweep_77 (lv_at hl 2 rfl) ?_
                refine lv_iconst (v := 0) hx hb dX5_sweep_79 (by decide) ?_
                refine kx_wv (wr := []) hP hD hS hA [0, 1, 2, 3, 4, 5, 6, 7, 8, 9] [] rfl rfl (by decide) (by decide) (va_runV (As := [.int (pl_l v4.toNatClampNeg), .int 0]) (rest := []) ⟨hx, hb, hml, hown, hts⟩ (c_X5_leave l dC dI cA q5 q5a q5b q5c q5d q5e q5f q5g q5h q5i H.size th_6 ma_6 to_6 rn_6 rf_6 et_6 sp_6 ho_6 mo_6 cs_6 uw_6 wh_6 lo_6 pl_6 nu_6 de_6 si_6 ki_6 aa_6 xx_6 yy_6 en_6 (pl_l v4.toNatClampNeg) 0 (pl_in hJ hpl (by omega) hk2 c_1 c_5) het_6) (cwV 2 hts gX5_sweep_X5_leave rfl rfl rfl (by decide +kernel) ⟨(Nat.le_of_ble_eq_true rfl), (Nat.le_of_ble_eq_true rfl)⟩) (pW hN (hP.sub (ws' := [(q5, .inr (5, [.int th_6, .ref q5a, .int ma_6, .ref q5b, .ref q5c, .int to_6, .ref q5d, .ref q5e, .ref q5f, .ref q5g, .ref q5h, .int rn_6, .int rf_6, .int et_6, .ref q5i, .int sp_6, .int ho_6, .int mo_6, .int cs_6, .int uw_6, .int wh_6, .int lo_6])), (q5a, .inl (cA, 6, .inl pl_6)), (q5b, .inl (cA, 60, .inl nu_6)), (q5c, .inl (cA, 60, .inl de_6)), (q5d, .inl (cA, 40, .inl si_6)), (q5e, .inl (cA, 480, .inl ki_6)), (q5f, .inl (cA, 480, .inl aa_6)), (q5g, .inl (cA, 480, .inl xx_6)), (q5h, .inl (cA, 480, .inl yy_6)), (q5i, .inl (cA, 250, .inl en_6))]) [0, 1, 2, 3, 4, 5, 6, 7, 8, 9] rfl) hK (hD.sub (ws' := [(q5, .inr (5, [.int th_6, .ref q5a, .int ma_6, .ref q5b, .ref q5c, .int to_6, .ref q5d, .ref q5e, .ref q5f, .ref q5g, .ref q5h, .int rn_6, .int rf_6, .int et_6, .ref q5i, .int sp_6, .int ho_6, .int mo_6, .int cs_6, .int uw_6, .int wh_6, .int lo_6])), (q5a, .inl (cA, 6, .inl pl_6)), (q5b, .inl (cA, 60, .inl nu_6)), (q5c, .inl (cA, 60, .inl de_6)), (q5d, .inl (cA, 40, .inl si_6)), (q5e, .inl (cA, 480, .inl ki_6)), (q5f, .inl (cA, 480, .inl aa_6)), (q5g, .inl (cA, 480, .inl xx_6)), (q5h, .inl (cA, 480, .inl yy_6)), (q5i, .inl (cA, 250, .inl en_6))]) [0, 1, 2, 3, 4, 5, 6, 7, 8, 9] (by decide) rfl) (ci := 5) (q0 := 0) rfl rfl rfl) rfl rfl hl.1 rfl (lv_room (Nat.le_of_ble_eq_true rfl)) dX5_sweep_80 ⟨Nat.zero_le _, Nat.zero_le _⟩) (fun u_10 H locs hw_10 hP hD hS => ?_)
                obtain ⟨th_10, ma_10, to_10, rn_10, rf_10, et_10, sp_10, ho_10, mo_10, cs_10, uw_10, wh_10, lo_10, pl_10, nu_10, de_10, si_10, ki_10, aa_10, xx_10, yy_10, en_10⟩ := u_10
                have hP : va_P (dC, dI) vwCl [(q5, .inr (5, [.int th_10, .ref q5a, .int ma_10, .ref q5b, .ref q5c, .int to_10, .ref q5d, .ref q5e, .ref q5f, .ref q5g, .ref q5h, .int rn_10, .int rf_10, .int et_10, .ref q5i, .int sp_10, .int ho_10, .int mo_10, .int cs_10, .int uw_10, .int wh_10, .int lo_10])), (q5a, .inl (cA, 6, .inl pl_10)), (q5b, .inl (cA, 60, .inl nu_10)), (q5c, .inl (cA, 60, .inl de_10)), (q5d, .inl (cA, 40, .inl si_10)), (q5e, .inl (cA, 480, .inl ki_10)), (q5f, .inl (cA, 480, .inl aa_10)), (q5g, .inl (cA, 480, .inl xx_10)), (q5h, .inl (cA, 480, .inl yy_10)), (q5i, .inl (cA, 250, .inl en_10))] H := hP
                have hD : va_D A [(q5, .inr (5, [.int th_10, .ref q5a, .int ma_10, .ref q5b, .ref q5c, .int to_10, .ref q5d, .ref q5e, .ref q5f, .ref q5g, .ref q5h, .int rn_10, .int rf_10, .int et_10, .ref q5i, .int sp_10, .int ho_10, .int mo_10, .int cs_10, .int uw_10, .int wh_10, .int lo_10])), (q5a, .inl (cA, 6, .inl pl_10)), (q5b, .inl (cA, 60, .inl nu_10)), (q5c, .inl (cA, 60, .inl de_10)), (q5d, .inl (cA, 40, .inl si_10)), (q5e, .inl (cA, 480, .inl ki_10)), (q5f, .inl (cA, 480, .inl aa_10)), (q5g, .inl (cA, 480, .inl xx_10)), (q5h, .inl (cA, 480, .inl yy_10)), (q5i, .inl (cA, 250, .inl en_10))] := hD
                have hz_10 := leave_mm hw_10
                have hpl_10 : pl_10 = pl := hz_10.1.trans hpl_6
                have hec_10 := et_up het_6 hec_6 hz_10.2 (by omega)
                have het_10 : 0 ≤ et_10.toInt := hec_10.1
                have hec_10 := hec_10.2
                refine lv_iinc (v := (v4 + 1)) (lv' := [(4, .int (v4 + 1)), (3, .int 0), (2, .int (v2 + (nu_6 (pl_l v4.toNatClampNeg).toNatClampNeg))), (5, .int (pl_l v4.toNatClampNeg)), (0, .ref q5), (1, .int v1)]) hx hb dX5_sweep_83 hl (k := 5) rfl rfl (by decide) rfl (fun ls hl => ?_)
                refine lv_goto (tgt := 7) hx hb dX5_sweep_86 (by decide) ?_
                exact ih v1 (v2 + (nu_6 (pl_l v4.toNatClampNeg).toNatClampNeg)) 0 (v4 + 1) th_10 ma_10 to_10 rn_10 rf_10 et_10 sp_10 ho_10 mo_10 cs_10 uw_10 wh_10 lo_10 pl_10 nu_10 de_10 si_10 ki_10 aa_10 xx_10 yy_10 en_10 ⟨k + 1, by have := lt_nI (by omega) hk2 c_1; omega, by rw [hk2]; exact nI_1 k, by omega, hpl_10, het_10, by have := hec_10; omega⟩ (by rw [← hE]; simp only [L_X5_sweep_7, if_neg c_1, if_neg c_3, if_neg c_5, ← hw_6, if_neg c_7, if_pos c_9, ← hw_10]) _ _ _ hP hD hS (lv_sub hl [4, 5, 2, 1, 0] rfl)
              · refine lv_iconst (v := 1) hx hb dX5_sweep_70 (by decide) ?_
                refine lv_goto (tgt := 75) hx hb dX5_sweep_71 (by decide) ?_
                refine lv_istore_n (lv' := [(3, .int 1), (2, .int (v2 + (nu_6 (pl_l v4.toNatClampNeg).toNatClampNeg))), (5, .int (pl_l v4.toNatClampNeg)), (0, .ref q5), (1, .int v1), (4, .int v4)]) hx hb dX5_sweep_75 rfl hl (by decide) rfl (fun ls hl => ?_)
                refine lv_aload_n hx hb dX5_sweep_76 rfl (lv_at hl 3 rfl) ?_
                refine lv_iload hx hb dX5_sweep_77 (lv_at hl 2 rfl) ?_
                refine lv_iconst (v := 0) hx hb dX5_sweep_79 (by decide) ?_
                refine kx_wv (wr := []) hP hD hS hA [0, 1, 2, 3, 4, 5, 6, 7, 8, 9] [] rfl rfl (by decide) (by decide) (va_runV (As := [.int (pl_l v4.toNatClampNeg), .int 0]) (rest := []) ⟨hx, hb, hml, hown, hts⟩ (c_X5_leave l dC dI cA q5 q5a q5b q5c q5d q5e q5f q5g q5h q5i H.size th_6 ma_6 to_6 rn_6 rf_6 et_6 sp_6 ho_6 mo_6 cs_6 uw_6 wh_6 lo_6 pl_6 nu_6 de_6 si_6 ki_6 aa_6 xx_6 yy_6 en_6 (pl_l v4.toNatClampNeg) 0 (pl_in hJ hpl (by omega) hk2 c_1 c_5) het_6) (cwV 2 hts gX5_sweep_X5_leave rfl rfl rfl (by decide +kernel) ⟨(Nat.le_of_ble_eq_true rfl), (Nat.le_of_ble_eq_true rfl)⟩) (pW hN (hP.sub (ws' := [(q5, .inr (5, [.int th_6, .ref q5a, .int ma_6, .ref q5b, .ref q5c, .int to_6, .ref q5d, .ref q5e, .ref q5f, .ref q5g, .ref q5h, .int rn_6, .int rf_6, .int et_6, .ref q5i, .int sp_6, .int ho_6, .int mo_6, .int cs_6, .int uw_6, .int wh_6, .int lo_6])), (q5a, .inl (cA, 6, .inl pl_6)), (q5b, .inl (cA, 60, .inl nu_6)), (q5c, .inl (cA, 60, .inl de_6)), (q5d, .inl (cA, 40, .inl si_6)), (q5e, .inl (cA, 480, .inl ki_6)), (q5f, .inl (cA, 480, .inl aa_6)), (q5g, .inl (cA, 480, .inl xx_6)), (q5h, .inl (cA, 480, .inl yy_6)), (q5i, .inl (cA, 250, .inl en_6))]) [0, 1, 2, 3, 4, 5, 6, 7, 8, 9] rfl) hK (hD.sub (ws' := [(q5, .inr (5, [.int th_6, .ref q5a, .int ma_6, .ref q5b, .ref q5c, .int to_6, .ref q5d, .ref q5e, .ref q5f, .ref q5g, .ref q5h, .int rn_6, .int rf_6, .int et_6, .ref q5i, .int sp_6, .int ho_6, .int mo_6, .int cs_6, .int uw_6, .int wh_6, .int lo_6])), (q5a, .inl (cA, 6, .inl pl_6)), (q5b, .inl (cA, 60, .inl nu_6)), (q5c, .inl (cA, 60, .inl de_6)), (q5d, .inl (cA, 40, .inl si_6)), (q5e, .inl (cA, 480, .inl ki_6)), (q5f, .inl (cA, 480, .inl aa_6)), (q5g, .inl (cA, 480, .inl xx_6)), (q5h, .inl (cA, 480, .inl yy_6)), (q5i, .inl (cA, 250, .inl en_6))]) [0, 1, 2, 3, 4, 5, 6, 7, 8, 9] (by decide) rfl) (ci := 5) (q0 := 0) rfl rfl rfl) rfl rfl hl.1 rfl (lv_room (Nat.le_of_ble_eq_true rfl)) dX5_sweep_80 ⟨Nat.zero_le _, Nat.zero_le _⟩) (fun u_11 H locs hw_11 hP hD hS => ?_)
                obtain ⟨th_11, ma_11, to_11, rn_11, rf_11, et_11, sp_11, ho_11, mo_11, cs_11, uw_11, wh_11, lo_11, pl_11, nu_11, de_11, si_11, ki_11, aa_11, xx_11, yy_11, en_11⟩ := u_11
                have hP : va_P (dC, dI) vwCl [(q5, .inr (5, [.int th_11, .ref q5a, .int ma_11, .ref q5b, .ref q5c, .int to_11, .ref q5d, .ref q5e, .ref q5f, .ref q5g, .ref q5h, .int rn_11, .int rf_11, .int et_11, .ref q5i, .int sp_11, .int ho_11, .int mo_11, .int cs_11, .int uw_11, .int wh_11, .int lo_11])), (q5a, .inl (cA, 6, .inl pl_11)), (q5b, .inl (cA, 60, .inl nu_11)), (q5c, .inl (cA, 60, .inl de_11)), (q5d, .inl (cA, 40, .inl si_11)), (q5e, .inl (cA, 480, .inl ki_11)), (q5f, .inl (cA, 480, .inl aa_11)), (q5g, .inl (cA, 480, .inl xx_11)), (q5h, .inl (cA, 480, .inl yy_11)), (q5i, .inl (cA, 250, .inl en_11))] H := hP
                have hD : va_D A [(q5, .inr (5, [.int th_11, .ref q5a, .int ma_11, .ref q5b, .ref q5c, .int to_11, .ref q5d, .ref q5e, .ref q5f, .ref q5g, .ref q5h, .int rn_11, .int rf_11, .int et_11, .ref q5i, .int sp_11, .int ho_11, .int mo_11, .int cs_11, .int uw_11, .int wh_11, .int lo_11])), (q5a, .inl (cA, 6, .inl pl_11)), (q5b, .inl (cA, 60, .inl nu_11)), (q5c, .inl (cA, 60, .inl de_11)), (q5d, .inl (cA, 40, .inl si_11)), (q5e, .inl (cA, 480, .inl ki_11)), (q5f, .inl (cA, 480, .inl aa_11)), (q5g, .inl (cA, 480, .inl xx_11)), (q5h, .inl (cA, 480, .inl yy_11)), (q5i, .inl (cA, 250, .inl en_11))] := hD
                have hz_11 := leave_mm hw_11
                have hpl_11 : pl_11 = pl := hz_11.1.trans hpl_6
                have hec_11 := et_up het_6 hec_6 hz_11.2 (by omega)
                have het_11 : 0 ≤ et_11.toInt := hec_11.1
                have hec_11 := hec_11.2
                refine lv_iinc (v := (v4 + 1)) (lv' := [(4, .int (v4 + 1)), (3, .int 1), (2, .int (v2 + (nu_6 (pl_l v4.toNatClampNeg).toNatClampNeg))), (5, .int (pl_l v4.toNatClampNeg)), (0, .ref q5), (1, .int v1)]) hx hb dX5_sweep_83 hl (k := 5) rfl rfl (by decide) rfl (fun ls hl => ?_)
                refine lv_goto (tgt := 7) hx hb dX5_sweep_86 (by decide) ?_
                exact ih v1 (v2 + (nu_6 (pl_l v4.toNatClampNeg).toNatClampNeg)) 1 (v4 + 1) th_11 ma_11 to_11 rn_11 rf_11 et_11 sp_11 ho_11 mo_11 cs_11 uw_11 wh_11 lo_11 pl_11 nu_11 de_11 si_11 ki_11 aa_11 xx_11 yy_11 en_11 ⟨k + 1, by have := lt_nI (by omega) hk2 c_1; omega, by rw [hk2]; exact nI_1 k, by omega, hpl_11, het_11, by have := hec_11; omega⟩ (by rw [← hE]; simp only [L_X5_sweep_7, if_neg c_1, if_neg c_3, if_neg c_5, ← hw_6, if_neg c_7, if_neg c_9, ← hw_11]) _ _ _ hP hD hS (lv_sub hl [4, 5, 2, 1, 0] rfl)
  exact hloop 7 p0 0 1 0 th ma to rn rf et sp ho mo cs uw wh lo pl nu de si ki aa xx yy en ⟨0, by omega, nI_0.symm, by omega, rfl, hJ.et0, by have := hJ.et5; omega⟩ (by simp only [f_X5_sweep]) _ _ _ hP hD hS (lv_sub hl [3, 4, 2, 1, 0] rfl)
end
