section
-- ===== PART A: goes FIRST, ahead of the names: the tables' words, and 'selects' of the private methods out of them =====
/-- a private method of a class that the tables say can be made, by its rows of tables_1 -/
def lw_okq (q : MethodName × Nat) : Prop := (q.1.cls ≠ "java/lang/invoke/MethodHandle" ∧ q.1.cls ≠ "java/lang/invoke/VarHandle") ∧ Cond.instantiable q.1.cls q.2 ∈ tables_1 ∧ Cond.privateMethod q.1 ∈ tables_1 ∧ Cond.instanceMethod q.1 ∈ tables_1
theorem lw_p0 : lw_okq (⟨"LazyMachine$Term", "givePart", "(II)Z"⟩, 7) := ⟨⟨by decide +kernel, by decide +kernel⟩, List.mem_of_getElem? (i := 78) (by decide +kernel), List.mem_of_getElem? (i := 154) (by decide +kernel), List.mem_of_getElem? (i := 155) (by decide +kernel)⟩
theorem lw_p1 : lw_okq (⟨"LazyMachine", "begin", "(I)V"⟩, 13) := ⟨⟨by decide +kernel, by decide +kernel⟩, List.mem_of_getElem? (i := 13) (by decide +kernel), List.mem_of_getElem? (i := 167) (by decide +kernel), List.mem_of_getElem? (i := 168) (by decide +kernel)⟩
theorem lw_p2 : lw_okq (⟨"LazyMachine", "enter", "(II)V"⟩, 13) := ⟨⟨by decide +kernel, by decide +kernel⟩, List.mem_of_getElem? (i := 13) (by decide +kernel), List.mem_of_getElem? (i := 187) (by decide +kernel), List.mem_of_getElem? (i := 188) (by decide +kernel)⟩
theorem lw_p3 : lw_okq (⟨"LazyMachine", "markRoots", "()V"⟩, 13) := ⟨⟨by decide +kernel, by decide +kernel⟩, List.mem_of_getElem? (i := 13) (by decide +kernel), List.mem_of_getElem? (i := 203) (by decide +kernel), List.mem_of_getElem? (i := 204) (by decide +kernel)⟩
theorem lw_p4 : lw_okq (⟨"java/lang/Throwable", "fillInStackTrace", "(I)Ljava/lang/Throwable;"⟩, 6) := ⟨⟨by decide +kernel, by decide +kernel⟩, List.mem_of_getElem? (i := 276) (by decide +kernel), List.mem_of_getElem? (i := 274) (by decide +kernel), List.mem_of_getElem? (i := 275) (by decide +kernel)⟩
theorem lw_p5 : lw_okq (⟨"LazyMachine", "stepBack", "()I"⟩, 13) := ⟨⟨by decide +kernel, by decide +kernel⟩, List.mem_of_getElem? (i := 13) (by decide +kernel), List.mem_of_getElem? (i := 346) (by decide +kernel), List.mem_of_getElem? (i := 347) (by decide +kernel)⟩
theorem lw_p6 : lw_okq (⟨"LazyMachine", "stepArgument", "(I)I"⟩, 13) := ⟨⟨by decide +kernel, by decide +kernel⟩, List.mem_of_getElem? (i := 13) (by decide +kernel), List.mem_of_getElem? (i := 366) (by decide +kernel), List.mem_of_getElem? (i := 367) (by decide +kernel)⟩
theorem lw_p7 : lw_okq (⟨"LazyMachine", "hasRoomFor", "(I)Z"⟩, 13) := ⟨⟨by decide +kernel, by decide +kernel⟩, List.mem_of_getElem? (i := 13) (by decide +kernel), List.mem_of_getElem? (i := 370) (by decide +kernel), List.mem_of_getElem? (i := 371) (by decide +kernel)⟩
theorem lw_p8 : lw_okq (⟨"LazyMachine", "enterFunction", "(I)V"⟩, 13) := ⟨⟨by decide +kernel, by decide +kernel⟩, List.mem_of_getElem? (i := 13) (by decide +kernel), List.mem_of_getElem? (i := 379) (by decide +kernel), List.mem_of_getElem? (i := 380) (by decide +kernel)⟩
theorem lw_p9 : lw_okq (⟨"LazyMachine", "stepLeft", "(II)I"⟩, 13) := ⟨⟨by decide +kernel, by decide +kernel⟩, List.mem_of_getElem? (i := 13) (by decide +kernel), List.mem_of_getElem? (i := 396) (by decide +kernel), List.mem_of_getElem? (i := 397) (by decide +kernel)⟩
theorem lw_p10 : lw_okq (⟨"LazyMachine", "stepRight", "(II)I"⟩, 13) := ⟨⟨by decide +kernel, by decide +kernel⟩, List.mem_of_getElem? (i := 13) (by decide +kernel), List.mem_of_getElem? (i := 411) (by decide +kernel), List.mem_of_getElem? (i := 412) (by decide +kernel)⟩
theorem lw_p11 : lw_okq (⟨"LazyMachine", "backWith", "(III)I"⟩, 13) := ⟨⟨by decide +kernel, by decide +kernel⟩, List.mem_of_getElem? (i := 13) (by decide +kernel), List.mem_of_getElem? (i := 422) (by decide +kernel), List.mem_of_getElem? (i := 423) (by decide +kernel)⟩
theorem lw_p12 : lw_okq (⟨"LazyMachine", "stepTest", "(II)I"⟩, 13) := ⟨⟨by decide +kernel, by decide +kernel⟩, List.mem_of_getElem? (i := 13) (by decide +kernel), List.mem_of_getElem? (i := 426) (by decide +kernel), List.mem_of_getElem? (i := 427) (by decide +kernel)⟩
theorem lw_p13 : lw_okq (⟨"LazyMachine", "stepPart", "(I)I"⟩, 13) := ⟨⟨by decide +kernel, by decide +kernel⟩, List.mem_of_getElem? (i := 13) (by decide +kernel), List.mem_of_getElem? (i := 430) (by decide +kernel), List.mem_of_getElem? (i := 431) (by decide +kernel)⟩
theorem lw_p14 : lw_okq (⟨"LazyMachine", "ask", "(I)I"⟩, 13) := ⟨⟨by decide +kernel, by decide +kernel⟩, List.mem_of_getElem? (i := 13) (by decide +kernel), List.mem_of_getElem? (i := 438) (by decide +kernel), List.mem_of_getElem? (i := 439) (by decide +kernel)⟩
theorem lw_p15 : lw_okq (⟨"LazyMachine", "stepAt", "()I"⟩, 13) := ⟨⟨by decide +kernel, by decide +kernel⟩, List.mem_of_getElem? (i := 13) (by decide +kernel), List.mem_of_getElem? (i := 451) (by decide +kernel), List.mem_of_getElem? (i := 452) (by decide +kernel)⟩
def lw_privs_1 : List (MethodName × Nat) := [(⟨"LazyMachine$Term", "givePart", "(II)Z"⟩, 7), (⟨"LazyMachine", "begin", "(I)V"⟩, 13), (⟨"LazyMachine", "enter", "(II)V"⟩, 13), (⟨"LazyMachine", "markRoots", "()V"⟩, 13), (⟨"java/lang/Throwable", "fillInStackTrace", "(I)Ljava/lang/Throwable;"⟩, 6), (⟨"LazyMachine", "stepBack", "()I"⟩, 13), (⟨"LazyMachine", "stepArgument", "(I)I"⟩, 13), (⟨"LazyMachine", "hasRoomFor", "(I)Z"⟩, 13), (⟨"LazyMachine", "enterFunction", "(I)V"⟩, 13), (⟨"LazyMachine", "stepLeft", "(II)I"⟩, 13), (⟨"LazyMachine", "stepRight", "(II)I"⟩, 13), (⟨"LazyMachine", "backWith", "(III)I"⟩, 13), (⟨"LazyMachine", "stepTest", "(II)I"⟩, 13), (⟨"LazyMachine", "stepPart", "(I)I"⟩, 13), (⟨"LazyMachine", "ask", "(I)I"⟩, 13), (⟨"LazyMachine", "stepAt", "()I"⟩, 13)]
theorem lw_r1 : ∀ q ∈ lw_privs_1, lw_okq q := List.forall_mem_cons.mpr ⟨lw_p0, List.forall_mem_cons.mpr ⟨lw_p1, List.forall_mem_cons.mpr ⟨lw_p2, List.forall_mem_cons.mpr ⟨lw_p3, List.forall_mem_cons.mpr ⟨lw_p4, List.forall_mem_cons.mpr ⟨lw_p5, List.forall_mem_cons.mpr ⟨lw_p6, List.forall_mem_cons.mpr ⟨lw_p7, List.forall_mem_cons.mpr ⟨lw_p8, List.forall_mem_cons.mpr ⟨lw_p9, List.forall_mem_cons.mpr ⟨lw_p10, List.forall_mem_cons.mpr ⟨lw_p11, List.forall_mem_cons.mpr ⟨lw_p12, List.forall_mem_cons.mpr ⟨lw_p13, List.forall_mem_cons.mpr ⟨lw_p14, List.forall_mem_cons.mpr ⟨lw_p15, fun _ h => absurd h List.not_mem_nil⟩⟩⟩⟩⟩⟩⟩⟩⟩⟩⟩⟩⟩⟩⟩⟩
theorem lw_p16 : lw_okq (⟨"LazyMachine", "stepApply", "()I"⟩, 13) := ⟨⟨by decide +kernel, by decide +kernel⟩, List.mem_of_getElem? (i := 13) (by decide +kernel), List.mem_of_getElem? (i := 464) (by decide +kernel), List.mem_of_getElem? (i := 465) (by decide +kernel)⟩
theorem lw_p17 : lw_okq (⟨"LazyMachine", "cellsFor", "(I)I"⟩, 13) := ⟨⟨by decide +kernel, by decide +kernel⟩, List.mem_of_getElem? (i := 13) (by decide +kernel), List.mem_of_getElem? (i := 468) (by decide +kernel), List.mem_of_getElem? (i := 469) (by decide +kernel)⟩
theorem lw_p18 : lw_okq (⟨"LazyMachine", "thunkFor", "(I)I"⟩, 13) := ⟨⟨by decide +kernel, by decide +kernel⟩, List.mem_of_getElem? (i := 13) (by decide +kernel), List.mem_of_getElem? (i := 472) (by decide +kernel), List.mem_of_getElem? (i := 473) (by decide +kernel)⟩
theorem lw_p19 : lw_okq (⟨"LazyMachine", "stepUnder", "(III)I"⟩, 13) := ⟨⟨by decide +kernel, by decide +kernel⟩, List.mem_of_getElem? (i := 13) (by decide +kernel), List.mem_of_getElem? (i := 476) (by decide +kernel), List.mem_of_getElem? (i := 477) (by decide +kernel)⟩
theorem lw_p20 : lw_okq (⟨"LazyMachine", "stepFix", "()I"⟩, 13) := ⟨⟨by decide +kernel, by decide +kernel⟩, List.mem_of_getElem? (i := 13) (by decide +kernel), List.mem_of_getElem? (i := 480) (by decide +kernel), List.mem_of_getElem? (i := 481) (by decide +kernel)⟩
theorem lw_p21 : lw_okq (⟨"LazyMachine", "stepLet", "()I"⟩, 13) := ⟨⟨by decide +kernel, by decide +kernel⟩, List.mem_of_getElem? (i := 13) (by decide +kernel), List.mem_of_getElem? (i := 484) (by decide +kernel), List.mem_of_getElem? (i := 485) (by decide +kernel)⟩
theorem lw_p22 : lw_okq (⟨"LazyMachine", "stepPair", "()I"⟩, 13) := ⟨⟨by decide +kernel, by decide +kernel⟩, List.mem_of_getElem? (i := 13) (by decide +kernel), List.mem_of_getElem? (i := 488) (by decide +kernel), List.mem_of_getElem? (i := 489) (by decide +kernel)⟩
theorem lw_p23 : lw_okq (⟨"LazyMachineModel", "fails", "(ZZ)Z"⟩, 30) := ⟨⟨by decide +kernel, by decide +kernel⟩, List.mem_of_getElem? (i := 517) (by decide +kernel), List.mem_of_getElem? (i := 623) (by decide +kernel), List.mem_of_getElem? (i := 624) (by decide +kernel)⟩
theorem lw_p24 : lw_okq (⟨"LazyMachineModel", "begin", "()V"⟩, 30) := ⟨⟨by decide +kernel, by decide +kernel⟩, List.mem_of_getElem? (i := 517) (by decide +kernel), List.mem_of_getElem? (i := 634) (by decide +kernel), List.mem_of_getElem? (i := 635) (by decide +kernel)⟩
theorem lw_p25 : lw_okq (⟨"LazyMachineModel", "returns", "()Z"⟩, 30) := ⟨⟨by decide +kernel, by decide +kernel⟩, List.mem_of_getElem? (i := 517) (by decide +kernel), List.mem_of_getElem? (i := 646) (by decide +kernel), List.mem_of_getElem? (i := 647) (by decide +kernel)⟩
theorem lw_p26 : lw_okq (⟨"LazyMachineModel", "stops", "(I)Z"⟩, 30) := ⟨⟨by decide +kernel, by decide +kernel⟩, List.mem_of_getElem? (i := 517) (by decide +kernel), List.mem_of_getElem? (i := 650) (by decide +kernel), List.mem_of_getElem? (i := 651) (by decide +kernel)⟩
theorem lw_p27 : lw_okq (⟨"LazyMachineModel", "isFull", "(I)Z"⟩, 30) := ⟨⟨by decide +kernel, by decide +kernel⟩, List.mem_of_getElem? (i := 517) (by decide +kernel), List.mem_of_getElem? (i := 654) (by decide +kernel), List.mem_of_getElem? (i := 655) (by decide +kernel)⟩
theorem lw_p28 : lw_okq (⟨"LazyMachineModel", "mark", "()I"⟩, 30) := ⟨⟨by decide +kernel, by decide +kernel⟩, List.mem_of_getElem? (i := 517) (by decide +kernel), List.mem_of_getElem? (i := 658) (by decide +kernel), List.mem_of_getElem? (i := 659) (by decide +kernel)⟩
theorem lw_p29 : lw_okq (⟨"LazyMachineModel", "meetValue", "(III)V"⟩, 30) := ⟨⟨by decide +kernel, by decide +kernel⟩, List.mem_of_getElem? (i := 517) (by decide +kernel), List.mem_of_getElem? (i := 662) (by decide +kernel), List.mem_of_getElem? (i := 663) (by decide +kernel)⟩
theorem lw_p30 : lw_okq (⟨"LazyMachineModel", "meet", "(I)V"⟩, 30) := ⟨⟨by decide +kernel, by decide +kernel⟩, List.mem_of_getElem? (i := 517) (by decide +kernel), List.mem_of_getElem? (i := 666) (by decide +kernel), List.mem_of_getElem? (i := 667) (by decide +kernel)⟩
theorem lw_p31 : lw_okq (⟨"LazyMachineModel", "cell", "(III)I"⟩, 30) := ⟨⟨by decide +kernel, by decide +kernel⟩, List.mem_of_getElem? (i := 517) (by decide +kernel), List.mem_of_getElem? (i := 670) (by decide +kernel), List.mem_of_getElem? (i := 671) (by decide +kernel)⟩
def lw_privs_2 : List (MethodName × Nat) := [(⟨"LazyMachine", "stepApply", "()I"⟩, 13), (⟨"LazyMachine", "cellsFor", "(I)I"⟩, 13), (⟨"LazyMachine", "thunkFor", "(I)I"⟩, 13), (⟨"LazyMachine", "stepUnder", "(III)I"⟩, 13), (⟨"LazyMachine", "stepFix", "()I"⟩, 13), (⟨"LazyMachine", "stepLet", "()I"⟩, 13), (⟨"LazyMachine", "stepPair", "()I"⟩, 13), (⟨"LazyMachineModel", "fails", "(ZZ)Z"⟩, 30), (⟨"LazyMachineModel", "begin", "()V"⟩, 30), (⟨"LazyMachineModel", "returns", "()Z"⟩, 30), (⟨"LazyMachineModel", "stops", "(I)Z"⟩, 30), (⟨"LazyMachineModel", "isFull", "(I)Z"⟩, 30), (⟨"LazyMachineModel", "mark", "()I"⟩, 30), (⟨"LazyMachineModel", "meetValue", "(III)V"⟩, 30), (⟨"LazyMachineModel", "meet", "(I)V"⟩, 30), (⟨"LazyMachineModel", "cell", "(III)I"⟩, 30)]
theorem lw_r2 : ∀ q ∈ lw_privs_2, lw_okq q := List.forall_mem_cons.mpr ⟨lw_p16, List.forall_mem_cons.mpr ⟨lw_p17, List.forall_mem_cons.mpr ⟨lw_p18, List.forall_mem_cons.mpr ⟨lw_p19, List.forall_mem_cons.mpr ⟨lw_p20, List.forall_mem_cons.mpr ⟨lw_p21, List.forall_mem_cons.mpr ⟨lw_p22, List.forall_mem_cons.mpr ⟨lw_p23, List.forall_mem_cons.mpr ⟨lw_p24, List.forall_mem_cons.mpr ⟨lw_p25, List.forall_mem_cons.mpr ⟨lw_p26, List.forall_mem_cons.mpr ⟨lw_p27, List.forall_mem_cons.mpr ⟨lw_p28, List.forall_mem_cons.mpr ⟨lw_p29, List.forall_mem_cons.mpr ⟨lw_p30, List.forall_mem_cons.mpr ⟨lw_p31, fun _ h => absurd h List.not_mem_nil⟩⟩⟩⟩⟩⟩⟩⟩⟩⟩⟩⟩⟩⟩⟩⟩
theorem lw_p32 : lw_okq (⟨"LazyMachineModel", "go", "(II)V"⟩, 30) := ⟨⟨by decide +kernel, by decide +kernel⟩, List.mem_of_getElem? (i := 517) (by decide +kernel), List.mem_of_getElem? (i := 674) (by decide +kernel), List.mem_of_getElem? (i := 675) (by decide +kernel)⟩
theorem lw_p33 : lw_okq (⟨"LazyMachineModel", "push", "(III)V"⟩, 30) := ⟨⟨by decide +kernel, by decide +kernel⟩, List.mem_of_getElem? (i := 517) (by decide +kernel), List.mem_of_getElem? (i := 678) (by decide +kernel), List.mem_of_getElem? (i := 679) (by decide +kernel)⟩
theorem lw_p34 : lw_okq (⟨"LazyMachineModel", "give", "(III)V"⟩, 30) := ⟨⟨by decide +kernel, by decide +kernel⟩, List.mem_of_getElem? (i := 517) (by decide +kernel), List.mem_of_getElem? (i := 685) (by decide +kernel), List.mem_of_getElem? (i := 686) (by decide +kernel)⟩
theorem lw_p35 : lw_okq (⟨"LazyMachineModel", "part", "(I)Z"⟩, 30) := ⟨⟨by decide +kernel, by decide +kernel⟩, List.mem_of_getElem? (i := 517) (by decide +kernel), List.mem_of_getElem? (i := 689) (by decide +kernel), List.mem_of_getElem? (i := 690) (by decide +kernel)⟩
theorem lw_p36 : lw_okq (⟨"LazyMachineModel", "asks", "(IZ)Z"⟩, 30) := ⟨⟨by decide +kernel, by decide +kernel⟩, List.mem_of_getElem? (i := 517) (by decide +kernel), List.mem_of_getElem? (i := 693) (by decide +kernel), List.mem_of_getElem? (i := 694) (by decide +kernel)⟩
theorem lw_p37 : lw_okq (⟨"LazyMachineModel", "isHigh", "()Z"⟩, 30) := ⟨⟨by decide +kernel, by decide +kernel⟩, List.mem_of_getElem? (i := 517) (by decide +kernel), List.mem_of_getElem? (i := 697) (by decide +kernel), List.mem_of_getElem? (i := 698) (by decide +kernel)⟩
theorem lw_p38 : lw_okq (⟨"LazyMachineModel", "at", "()Z"⟩, 30) := ⟨⟨by decide +kernel, by decide +kernel⟩, List.mem_of_getElem? (i := 517) (by decide +kernel), List.mem_of_getElem? (i := 701) (by decide +kernel), List.mem_of_getElem? (i := 702) (by decide +kernel)⟩
theorem lw_p39 : lw_okq (⟨"LazyMachineModel", "bound", "(I)I"⟩, 30) := ⟨⟨by decide +kernel, by decide +kernel⟩, List.mem_of_getElem? (i := 517) (by decide +kernel), List.mem_of_getElem? (i := 705) (by decide +kernel), List.mem_of_getElem? (i := 706) (by decide +kernel)⟩
theorem lw_p40 : lw_okq (⟨"LazyMachineModel", "costs", "(I)I"⟩, 30) := ⟨⟨by decide +kernel, by decide +kernel⟩, List.mem_of_getElem? (i := 517) (by decide +kernel), List.mem_of_getElem? (i := 709) (by decide +kernel), List.mem_of_getElem? (i := 710) (by decide +kernel)⟩
theorem lw_p41 : lw_okq (⟨"LazyMachineModel", "thunk", "(I)I"⟩, 30) := ⟨⟨by decide +kernel, by decide +kernel⟩, List.mem_of_getElem? (i := 517) (by decide +kernel), List.mem_of_getElem? (i := 713) (by decide +kernel), List.mem_of_getElem? (i := 714) (by decide +kernel)⟩
def lw_privs_3 : List (MethodName × Nat) := [(⟨"LazyMachineModel", "go", "(II)V"⟩, 30), (⟨"LazyMachineModel", "push", "(III)V"⟩, 30), (⟨"LazyMachineModel", "give", "(III)V"⟩, 30), (⟨"LazyMachineModel", "part", "(I)Z"⟩, 30), (⟨"LazyMachineModel", "asks", "(IZ)Z"⟩, 30), (⟨"LazyMachineModel", "isHigh", "()Z"⟩, 30), (⟨"LazyMachineModel", "at", "()Z"⟩, 30), (⟨"LazyMachineModel", "bound", "(I)I"⟩, 30), (⟨"LazyMachineModel", "costs", "(I)I"⟩, 30), (⟨"LazyMachineModel", "thunk", "(I)I"⟩, 30)]
theorem lw_r3 : ∀ q ∈ lw_privs_3, lw_okq q := List.forall_mem_cons.mpr ⟨lw_p32, List.forall_mem_cons.mpr ⟨lw_p33, List.forall_mem_cons.mpr ⟨lw_p34, List.forall_mem_cons.mpr ⟨lw_p35, List.forall_mem_cons.mpr ⟨lw_p36, List.forall_mem_cons.mpr ⟨lw_p37, List.forall_mem_cons.mpr ⟨lw_p38, List.forall_mem_cons.mpr ⟨lw_p39, List.forall_mem_cons.mpr ⟨lw_p40, List.forall_mem_cons.mpr ⟨lw_p41, fun _ h => absurd h List.not_mem_nil⟩⟩⟩⟩⟩⟩⟩⟩⟩⟩
def lw_privs : List (MethodName × Nat) := lw_privs_1 ++ (lw_privs_2 ++ (lw_privs_3))
def lw_tbl : List Cond := k2_sels lw_privs ++ tables_1
theorem lw_privs_ok : ∀ q ∈ lw_privs, lw_okq q := by
  show ∀ q ∈ lw_privs_1 ++ (lw_privs_2 ++ (lw_privs_3)), lw_okq q
  exact List.forall_mem_append.mpr ⟨lw_r1, List.forall_mem_append.mpr ⟨lw_r2, lw_r3⟩⟩
end
section
/-! Names: classes, methods, their code; the words of the tables that our contracts take. Printed by a program of ours. -/
abbrev R_LazyMachine : String := "LazyMachine"
abbrev R_Heap : String := "LazyMachine$Heap"
abbrev R_Pile : String := "LazyMachine$Pile"
abbrev R_Term : String := "LazyMachine$Term"
abbrev R_Model : String := "LazyMachineModel"
abbrev R_Law : String := "LazyMachineLaw"
abbrev b_LazyMachine_init : ByteArray := prog_1_method_1_code
abbrev y_LazyMachine_init : MethodName := ⟨R_LazyMachine, "<init>", "()V"⟩
abbrev b_Heap_init : ByteArray := prog_2_method_1_code
abbrev y_Heap_init : MethodName := ⟨R_Heap, "<init>", "()V"⟩
abbrev b_Pile_init : ByteArray := prog_3_method_1_code
abbrev y_Pile_init : MethodName := ⟨R_Pile, "<init>", "()V"⟩
abbrev b_Term_init : ByteArray := prog_4_method_1_code
abbrev y_Term_init : MethodName := ⟨R_Term, "<init>", "()V"⟩
abbrev b_LazyMachine_load : ByteArray := prog_1_method_3_code
abbrev y_LazyMachine_load : MethodName := ⟨R_LazyMachine, "load", "()I"⟩
abbrev b_Term_settle : ByteArray := prog_4_method_8_code
abbrev y_Term_settle : MethodName := ⟨R_Term, "settle", "()I"⟩
abbrev b_Term_givePart : ByteArray := prog_4_method_9_code
abbrev y_Term_givePart : MethodName := ⟨R_Term, "givePart", "(II)Z"⟩
abbrev b_Term_bindsIn : ByteArray := prog_4_method_10_code
abbrev y_Term_bindsIn : MethodName := ⟨R_Term, "bindsIn", "(II)Z"⟩
abbrev b_Term_clear : ByteArray := prog_4_method_6_code
abbrev y_Term_clear : MethodName := ⟨R_Term, "clear", "()V"⟩
abbrev b_LazyMachine_begin : ByteArray := prog_1_method_11_code
abbrev y_LazyMachine_begin : MethodName := ⟨R_LazyMachine, "begin", "(I)V"⟩
abbrev b_Heap_empty : ByteArray := prog_2_method_2_code
abbrev y_Heap_empty : MethodName := ⟨R_Heap, "empty", "()V"⟩
abbrev b_Heap_beginMarks : ByteArray := prog_2_method_10_code
abbrev y_Heap_beginMarks : MethodName := ⟨R_Heap, "beginMarks", "()V"⟩
abbrev b_Heap_freeUnreached : ByteArray := prog_2_method_14_code
abbrev y_Heap_freeUnreached : MethodName := ⟨R_Heap, "freeUnreached", "()V"⟩
abbrev b_Pile_empty : ByteArray := prog_3_method_2_code
abbrev y_Pile_empty : MethodName := ⟨R_Pile, "empty", "()V"⟩
abbrev b_LazyMachine_enter : ByteArray := prog_1_method_12_code
abbrev y_LazyMachine_enter : MethodName := ⟨R_LazyMachine, "enter", "(II)V"⟩
abbrev b_LazyMachine_count : ByteArray := prog_1_method_9_code
abbrev y_LazyMachine_count : MethodName := ⟨R_LazyMachine, "count", "(I)I"⟩
abbrev b_Term_size : ByteArray := prog_4_method_2_code
abbrev y_Term_size : MethodName := ⟨R_Term, "size", "()I"⟩
abbrev b_Pile_size : ByteArray := prog_3_method_3_code
abbrev y_Pile_size : MethodName := ⟨R_Pile, "size", "()I"⟩
abbrev b_LazyMachine_markRoots : ByteArray := prog_1_method_32_code
abbrev y_LazyMachine_markRoots : MethodName := ⟨R_LazyMachine, "markRoots", "()V"⟩
abbrev b_Heap_reachFrom : ByteArray := prog_2_method_12_code
abbrev y_Heap_reachFrom : MethodName := ⟨R_Heap, "reachFrom", "(III)V"⟩
abbrev b_Heap_reach : ByteArray := prog_2_method_11_code
abbrev y_Heap_reach : MethodName := ⟨R_Heap, "reach", "(I)V"⟩
abbrev b_Pile_reachAll : ByteArray := prog_3_method_11_code
abbrev y_Pile_reachAll : MethodName := ⟨R_Pile, "reachAll", "(LLazyMachine$Heap;)V"⟩
abbrev b_Heap_spreadMarks : ByteArray := prog_2_method_13_code
abbrev y_Heap_spreadMarks : MethodName := ⟨R_Heap, "spreadMarks", "()I"⟩
abbrev b_Pile_most : ByteArray := prog_3_method_4_code
abbrev y_Pile_most : MethodName := ⟨R_Pile, "most", "()I"⟩
abbrev b_Law_put : ByteArray := method_3_code
abbrev y_Law_put : MethodName := ⟨R_Law, "put", "(LLazyMachine;II[J)I"⟩
abbrev b_LazyMachine_put : ByteArray := prog_1_method_2_code
abbrev y_LazyMachine_put : MethodName := ⟨R_LazyMachine, "put", "(II)I"⟩
abbrev b_LazyMachine_mayBear : ByteArray := prog_1_method_10_code
abbrev y_LazyMachine_mayBear : MethodName := ⟨R_LazyMachine, "mayBear", "(II)Z"⟩
abbrev b_Term_add : ByteArray := prog_4_method_7_code
abbrev y_Term_add : MethodName := ⟨R_Term, "add", "(II)Z"⟩
abbrev b_Law_restart : ByteArray := method_4_code
abbrev y_Law_restart : MethodName := ⟨R_Law, "restart", "(LLazyMachine;)I"⟩
abbrev b_LazyMachine_restart : ByteArray := prog_1_method_4_code
abbrev y_LazyMachine_restart : MethodName := ⟨R_LazyMachine, "restart", "()V"⟩
abbrev b_Law_run : ByteArray := method_5_code
abbrev y_Law_run : MethodName := ⟨R_Law, "run", "(LLazyMachine;I[J)I"⟩
abbrev b_LazyMachine_run : ByteArray := prog_1_method_5_code
abbrev y_LazyMachine_run : MethodName := ⟨R_LazyMachine, "run", "(I)I"⟩
abbrev b_LazyMachine_stepBack : ByteArray := prog_1_method_20_code
abbrev y_LazyMachine_stepBack : MethodName := ⟨R_LazyMachine, "stepBack", "()I"⟩
abbrev b_Pile_topFirst : ByteArray := prog_3_method_9_code
abbrev y_Pile_topFirst : MethodName := ⟨R_Pile, "topFirst", "()I"⟩
abbrev b_Pile_topSort : ByteArray := prog_3_method_8_code
abbrev y_Pile_topSort : MethodName := ⟨R_Pile, "topSort", "()I"⟩
abbrev b_Pile_drop : ByteArray := prog_3_method_7_code
abbrev y_Pile_drop : MethodName := ⟨R_Pile, "drop", "()V"⟩
abbrev b_Heap_become : ByteArray := prog_2_method_8_code
abbrev y_Heap_become : MethodName := ⟨R_Heap, "become", "(IIII)V"⟩
abbrev b_LazyMachine_stepArgument : ByteArray := prog_1_method_21_code
abbrev y_LazyMachine_stepArgument : MethodName := ⟨R_LazyMachine, "stepArgument", "(I)I"⟩
abbrev b_LazyMachine_hasRoomFor : ByteArray := prog_1_method_31_code
abbrev y_LazyMachine_hasRoomFor : MethodName := ⟨R_LazyMachine, "hasRoomFor", "(I)Z"⟩
abbrev b_Heap_free : ByteArray := prog_2_method_3_code
abbrev y_Heap_free : MethodName := ⟨R_Heap, "free", "()I"⟩
abbrev b_LazyMachine_enterFunction : ByteArray := prog_1_method_22_code
abbrev y_LazyMachine_enterFunction : MethodName := ⟨R_LazyMachine, "enterFunction", "(I)V"⟩
abbrev b_Term_part : ByteArray := prog_4_method_5_code
abbrev y_Term_part : MethodName := ⟨R_Term, "part", "(II)I"⟩
abbrev b_Heap_take : ByteArray := prog_2_method_7_code
abbrev y_Heap_take : MethodName := ⟨R_Heap, "take", "(III)I"⟩
abbrev b_Pile_topSecond : ByteArray := prog_3_method_10_code
abbrev y_Pile_topSecond : MethodName := ⟨R_Pile, "topSecond", "()I"⟩
abbrev b_LazyMachine_stepLeft : ByteArray := prog_1_method_23_code
abbrev y_LazyMachine_stepLeft : MethodName := ⟨R_LazyMachine, "stepLeft", "(II)I"⟩
abbrev b_Pile_add : ByteArray := prog_3_method_6_code
abbrev y_Pile_add : MethodName := ⟨R_Pile, "add", "(III)V"⟩
abbrev b_Pile_isFull : ByteArray := prog_3_method_5_code
abbrev y_Pile_isFull : MethodName := ⟨R_Pile, "isFull", "()Z"⟩
abbrev b_LazyMachine_stepRight : ByteArray := prog_1_method_24_code
abbrev y_LazyMachine_stepRight : MethodName := ⟨R_LazyMachine, "stepRight", "(II)I"⟩
abbrev b_Term_sort : ByteArray := prog_4_method_3_code
abbrev y_Term_sort : MethodName := ⟨R_Term, "sort", "(I)I"⟩
abbrev b_LazyMachine_reckon : ByteArray := prog_1_method_25_code
abbrev y_LazyMachine_reckon : MethodName := ⟨R_LazyMachine, "reckon", "(III)I"⟩
abbrev b_LazyMachine_backWith : ByteArray := prog_1_method_13_code
abbrev y_LazyMachine_backWith : MethodName := ⟨R_LazyMachine, "backWith", "(III)I"⟩
abbrev b_LazyMachine_stepTest : ByteArray := prog_1_method_26_code
abbrev y_LazyMachine_stepTest : MethodName := ⟨R_LazyMachine, "stepTest", "(II)I"⟩
abbrev b_LazyMachine_stepPart : ByteArray := prog_1_method_27_code
abbrev y_LazyMachine_stepPart : MethodName := ⟨R_LazyMachine, "stepPart", "(I)I"⟩
abbrev b_Heap_state : ByteArray := prog_2_method_4_code
abbrev y_Heap_state : MethodName := ⟨R_Heap, "state", "(I)I"⟩
abbrev b_LazyMachine_ask : ByteArray := prog_1_method_28_code
abbrev y_LazyMachine_ask : MethodName := ⟨R_LazyMachine, "ask", "(I)I"⟩
abbrev b_Heap_first : ByteArray := prog_2_method_5_code
abbrev y_Heap_first : MethodName := ⟨R_Heap, "first", "(I)I"⟩
abbrev b_Heap_second : ByteArray := prog_2_method_6_code
abbrev y_Heap_second : MethodName := ⟨R_Heap, "second", "(I)I"⟩
abbrev b_LazyMachine_stepAt : ByteArray := prog_1_method_14_code
abbrev y_LazyMachine_stepAt : MethodName := ⟨R_LazyMachine, "stepAt", "()I"⟩
abbrev b_Term_x : ByteArray := prog_4_method_4_code
abbrev y_Term_x : MethodName := ⟨R_Term, "x", "(I)I"⟩
abbrev b_Heap_boundTo : ByteArray := prog_2_method_9_code
abbrev y_Heap_boundTo : MethodName := ⟨R_Heap, "boundTo", "(II)I"⟩
abbrev b_LazyMachine_stepApply : ByteArray := prog_1_method_16_code
abbrev y_LazyMachine_stepApply : MethodName := ⟨R_LazyMachine, "stepApply", "()I"⟩
abbrev b_LazyMachine_cellsFor : ByteArray := prog_1_method_29_code
abbrev y_LazyMachine_cellsFor : MethodName := ⟨R_LazyMachine, "cellsFor", "(I)I"⟩
abbrev b_LazyMachine_thunkFor : ByteArray := prog_1_method_30_code
abbrev y_LazyMachine_thunkFor : MethodName := ⟨R_LazyMachine, "thunkFor", "(I)I"⟩
abbrev b_LazyMachine_stepUnder : ByteArray := prog_1_method_15_code
abbrev y_LazyMachine_stepUnder : MethodName := ⟨R_LazyMachine, "stepUnder", "(III)I"⟩
abbrev b_LazyMachine_stepFix : ByteArray := prog_1_method_17_code
abbrev y_LazyMachine_stepFix : MethodName := ⟨R_LazyMachine, "stepFix", "()I"⟩
abbrev b_LazyMachine_stepLet : ByteArray := prog_1_method_18_code
abbrev y_LazyMachine_stepLet : MethodName := ⟨R_LazyMachine, "stepLet", "()I"⟩
abbrev b_LazyMachine_stepPair : ByteArray := prog_1_method_19_code
abbrev y_LazyMachine_stepPair : MethodName := ⟨R_LazyMachine, "stepPair", "()I"⟩
abbrev b_Law_result : ByteArray := method_6_code
abbrev y_Law_result : MethodName := ⟨R_Law, "result", "(LLazyMachine;I[J)I"⟩
abbrev b_LazyMachine_result : ByteArray := prog_1_method_6_code
abbrev y_LazyMachine_result : MethodName := ⟨R_LazyMachine, "result", "(I)I"⟩
abbrev b_Law_into : ByteArray := method_7_code
abbrev y_Law_into : MethodName := ⟨R_Law, "into", "(LLazyMachine;I[J)I"⟩
abbrev b_LazyMachine_into : ByteArray := prog_1_method_7_code
abbrev y_LazyMachine_into : MethodName := ⟨R_LazyMachine, "into", "(I)I"⟩
abbrev b_Law_apply : ByteArray := method_8_code
abbrev y_Law_apply : MethodName := ⟨R_Law, "apply", "(LLazyMachine;I[J)I"⟩
abbrev b_LazyMachine_apply : ByteArray := prog_1_method_8_code
abbrev y_LazyMachine_apply : MethodName := ⟨R_LazyMachine, "apply", "(I)I"⟩
abbrev b_Model_init : ByteArray := prog_6_method_1_code
abbrev y_Model_init : MethodName := ⟨R_Model, "<init>", "()V"⟩
abbrev b_Model_thrown : ByteArray := prog_6_method_2_code
abbrev y_Model_thrown : MethodName := ⟨R_Model, "thrown", "()I"⟩
abbrev b_Model_put : ByteArray := prog_6_method_4_code
abbrev y_Model_put : MethodName := ⟨R_Model, "put", "(II)I"⟩
abbrev b_Model_fails : ByteArray := prog_6_method_3_code
abbrev y_Model_fails : MethodName := ⟨R_Model, "fails", "(ZZ)Z"⟩
abbrev b_Model_load : ByteArray := prog_6_method_6_code
abbrev y_Model_load : MethodName := ⟨R_Model, "load", "()I"⟩
abbrev b_Model_many : ByteArray := prog_6_method_5_code
abbrev y_Model_many : MethodName := ⟨R_Model, "many", "(I)I"⟩
abbrev b_Model_begin : ByteArray := prog_6_method_7_code
abbrev y_Model_begin : MethodName := ⟨R_Model, "begin", "()V"⟩
abbrev b_Model_restart : ByteArray := prog_6_method_8_code
abbrev y_Model_restart : MethodName := ⟨R_Model, "restart", "()V"⟩
abbrev b_Model_run : ByteArray := prog_6_method_27_code
abbrev y_Model_run : MethodName := ⟨R_Model, "run", "(I)I"⟩
abbrev b_Model_returns : ByteArray := prog_6_method_25_code
abbrev y_Model_returns : MethodName := ⟨R_Model, "returns", "()Z"⟩
abbrev b_Model_stops : ByteArray := prog_6_method_16_code
abbrev y_Model_stops : MethodName := ⟨R_Model, "stops", "(I)Z"⟩
abbrev b_Model_isFull : ByteArray := prog_6_method_18_code
abbrev y_Model_isFull : MethodName := ⟨R_Model, "isFull", "(I)Z"⟩
abbrev b_Model_mark : ByteArray := prog_6_method_11_code
abbrev y_Model_mark : MethodName := ⟨R_Model, "mark", "()I"⟩
abbrev b_Model_meetValue : ByteArray := prog_6_method_10_code
abbrev y_Model_meetValue : MethodName := ⟨R_Model, "meetValue", "(III)V"⟩
abbrev b_Model_meet : ByteArray := prog_6_method_9_code
abbrev y_Model_meet : MethodName := ⟨R_Model, "meet", "(I)V"⟩
abbrev b_Model_cell : ByteArray := prog_6_method_12_code
abbrev y_Model_cell : MethodName := ⟨R_Model, "cell", "(III)I"⟩
abbrev b_Model_go : ByteArray := prog_6_method_21_code
abbrev y_Model_go : MethodName := ⟨R_Model, "go", "(II)V"⟩
abbrev b_Model_push : ByteArray := prog_6_method_19_code
abbrev y_Model_push : MethodName := ⟨R_Model, "push", "(III)V"⟩
abbrev b_Model_reckoned : ByteArray := prog_6_method_24_code
abbrev y_Model_reckoned : MethodName := ⟨R_Model, "reckoned", "(III)I"⟩
abbrev b_Model_give : ByteArray := prog_6_method_20_code
abbrev y_Model_give : MethodName := ⟨R_Model, "give", "(III)V"⟩
abbrev b_Model_part : ByteArray := prog_6_method_26_code
abbrev y_Model_part : MethodName := ⟨R_Model, "part", "(I)Z"⟩
abbrev b_Model_asks : ByteArray := prog_6_method_22_code
abbrev y_Model_asks : MethodName := ⟨R_Model, "asks", "(IZ)Z"⟩
abbrev b_Model_isHigh : ByteArray := prog_6_method_17_code
abbrev y_Model_isHigh : MethodName := ⟨R_Model, "isHigh", "()Z"⟩
abbrev b_Model_at : ByteArray := prog_6_method_23_code
abbrev y_Model_at : MethodName := ⟨R_Model, "at", "()Z"⟩
abbrev b_Model_bound : ByteArray := prog_6_method_15_code
abbrev y_Model_bound : MethodName := ⟨R_Model, "bound", "(I)I"⟩
abbrev b_Model_costs : ByteArray := prog_6_method_13_code
abbrev y_Model_costs : MethodName := ⟨R_Model, "costs", "(I)I"⟩
abbrev b_Model_thunk : ByteArray := prog_6_method_14_code
abbrev y_Model_thunk : MethodName := ⟨R_Model, "thunk", "(I)I"⟩
abbrev b_Model_result : ByteArray := prog_6_method_28_code
abbrev y_Model_result : MethodName := ⟨R_Model, "result", "(I)I"⟩
abbrev b_Model_into : ByteArray := prog_6_method_29_code
abbrev y_Model_into : MethodName := ⟨R_Model, "into", "(I)I"⟩
abbrev b_Model_apply : ByteArray := prog_6_method_30_code
abbrev y_Model_apply : MethodName := ⟨R_Model, "apply", "(I)I"⟩
abbrev b_Model_count : ByteArray := prog_6_method_31_code
abbrev y_Model_count : MethodName := ⟨R_Model, "count", "(I)I"⟩
def F_LazyMachine : u_T := fun k => match k with
  | 0 => ("LazyMachine", "heap", "LLazyMachine$Heap;", true)
  | 1 => ("LazyMachine", "pile", "LLazyMachine$Pile;", true)
  | 2 => ("LazyMachine", "waiting", "LLazyMachine$Term;", false)
  | 3 => ("LazyMachine", "term", "LLazyMachine$Term;", false)
  | 4 => ("LazyMachine", "status", "I", false)
  | 5 => ("LazyMachine", "steps", "I", false)
  | 6 => ("LazyMachine", "forced", "I", false)
  | 7 => ("LazyMachine", "back", "Z", false)
  | 8 => ("LazyMachine", "node", "I", false)
  | 9 => ("LazyMachine", "environment", "I", false)
  | 10 => ("LazyMachine", "valueSort", "I", false)
  | 11 => ("LazyMachine", "valueFirst", "I", false)
  | _ => ("LazyMachine", "valueSecond", "I", false)
def t_LazyMachine : Nat → FieldType := fun k => match k with
  | 0 => .object "LazyMachine$Heap"
  | 1 => .object "LazyMachine$Pile"
  | 2 => .object "LazyMachine$Term"
  | 3 => .object "LazyMachine$Term"
  | 4 => .int
  | 5 => .int
  | 6 => .int
  | 7 => .boolean
  | 8 => .int
  | 9 => .int
  | 10 => .int
  | 11 => .int
  | _ => .int
theorem n_LazyMachine : ∀ a, a < 13 → ∀ b, b < 13 → a ≠ b → (F_LazyMachine a).2.1 ≠ (F_LazyMachine b).2.1 := by decide +kernel
theorem t_LazyMachine_ok : ∀ k, k < 13 → parseFieldDescriptor (F_LazyMachine k).2.2.1 = some (t_LazyMachine k) := by decide +kernel
def F_Heap : u_T := fun k => match k with
  | 0 => ("LazyMachine$Heap", "states", "[I", true)
  | 1 => ("LazyMachine$Heap", "firsts", "[I", true)
  | 2 => ("LazyMachine$Heap", "seconds", "[I", true)
  | 3 => ("LazyMachine$Heap", "freeCells", "[I", true)
  | 4 => ("LazyMachine$Heap", "marks", "[I", true)
  | 5 => ("LazyMachine$Heap", "reached", "[I", true)
  | 6 => ("LazyMachine$Heap", "free", "I", false)
  | 7 => ("LazyMachine$Heap", "round", "I", false)
  | _ => ("LazyMachine$Heap", "reachedCount", "I", false)
def t_Heap : Nat → FieldType := fun k => match k with
  | 0 => .array .int
  | 1 => .array .int
  | 2 => .array .int
  | 3 => .array .int
  | 4 => .array .int
  | 5 => .array .int
  | 6 => .int
  | 7 => .int
  | _ => .int
theorem n_Heap : ∀ a, a < 9 → ∀ b, b < 9 → a ≠ b → (F_Heap a).2.1 ≠ (F_Heap b).2.1 := by decide +kernel
theorem t_Heap_ok : ∀ k, k < 9 → parseFieldDescriptor (F_Heap k).2.2.1 = some (t_Heap k) := by decide +kernel
def F_Pile : u_T := fun k => match k with
  | 0 => ("LazyMachine$Pile", "sorts", "[I", true)
  | 1 => ("LazyMachine$Pile", "firsts", "[I", true)
  | 2 => ("LazyMachine$Pile", "seconds", "[I", true)
  | 3 => ("LazyMachine$Pile", "size", "I", false)
  | _ => ("LazyMachine$Pile", "most", "I", false)
def t_Pile : Nat → FieldType := fun k => match k with
  | 0 => .array .int
  | 1 => .array .int
  | 2 => .array .int
  | 3 => .int
  | _ => .int
theorem n_Pile : ∀ a, a < 5 → ∀ b, b < 5 → a ≠ b → (F_Pile a).2.1 ≠ (F_Pile b).2.1 := by decide +kernel
theorem t_Pile_ok : ∀ k, k < 5 → parseFieldDescriptor (F_Pile k).2.2.1 = some (t_Pile k) := by decide +kernel
def F_Term : u_T := fun k => match k with
  | 0 => ("LazyMachine$Term", "sorts", "[I", true)
  | 1 => ("LazyMachine$Term", "xs", "[I", true)
  | 2 => ("LazyMachine$Term", "parts", "[I", true)
  | 3 => ("LazyMachine$Term", "partsCome", "[I", true)
  | 4 => ("LazyMachine$Term", "binders", "[I", true)
  | 5 => ("LazyMachine$Term", "open", "[I", true)
  | _ => ("LazyMachine$Term", "size", "I", false)
def t_Term : Nat → FieldType := fun k => match k with
  | 0 => .array .int
  | 1 => .array .int
  | 2 => .array .int
  | 3 => .array .int
  | 4 => .array .int
  | 5 => .array .int
  | _ => .int
theorem n_Term : ∀ a, a < 7 → ∀ b, b < 7 → a ≠ b → (F_Term a).2.1 ≠ (F_Term b).2.1 := by decide +kernel
theorem t_Term_ok : ∀ k, k < 7 → parseFieldDescriptor (F_Term k).2.2.1 = some (t_Term k) := by decide +kernel
def F_Model : u_T := fun k => match k with
  | 0 => ("LazyMachineModel", "thrown", "I", false)
  | 1 => ("LazyMachineModel", "sorts", "[I", true)
  | 2 => ("LazyMachineModel", "xs", "[I", true)
  | 3 => ("LazyMachineModel", "told", "I", false)
  | 4 => ("LazyMachineModel", "sort", "[I", true)
  | 5 => ("LazyMachineModel", "number", "[I", true)
  | 6 => ("LazyMachineModel", "child", "[I", true)
  | 7 => ("LazyMachineModel", "size", "I", false)
  | 8 => ("LazyMachineModel", "owner", "[I", true)
  | 9 => ("LazyMachineModel", "around", "[I", true)
  | 10 => ("LazyMachineModel", "is", "[I", true)
  | 11 => ("LazyMachineModel", "one", "[I", true)
  | 12 => ("LazyMachineModel", "two", "[I", true)
  | 13 => ("LazyMachineModel", "reached", "[Z", true)
  | 14 => ("LazyMachineModel", "todo", "[I", true)
  | 15 => ("LazyMachineModel", "left", "I", false)
  | 16 => ("LazyMachineModel", "what", "[I", true)
  | 17 => ("LazyMachineModel", "first", "[I", true)
  | 18 => ("LazyMachineModel", "second", "[I", true)
  | 19 => ("LazyMachineModel", "frames", "I", false)
  | 20 => ("LazyMachineModel", "most", "I", false)
  | 21 => ("LazyMachineModel", "status", "I", false)
  | 22 => ("LazyMachineModel", "steps", "I", false)
  | 23 => ("LazyMachineModel", "forced", "I", false)
  | 24 => ("LazyMachineModel", "back", "Z", false)
  | 25 => ("LazyMachineModel", "node", "I", false)
  | 26 => ("LazyMachineModel", "environment", "I", false)
  | 27 => ("LazyMachineModel", "valueSort", "I", false)
  | 28 => ("LazyMachineModel", "valueOne", "I", false)
  | _ => ("LazyMachineModel", "valueTwo", "I", false)
def t_Model : Nat → FieldType := fun k => match k with
  | 0 => .int
  | 1 => .array .int
  | 2 => .array .int
  | 3 => .int
  | 4 => .array .int
  | 5 => .array .int
  | 6 => .array .int
  | 7 => .int
  | 8 => .array .int
  | 9 => .array .int
  | 10 => .array .int
  | 11 => .array .int
  | 12 => .array .int
  | 13 => .array .boolean
  | 14 => .array .int
  | 15 => .int
  | 16 => .array .int
  | 17 => .array .int
  | 18 => .array .int
  | 19 => .int
  | 20 => .int
  | 21 => .int
  | 22 => .int
  | 23 => .int
  | 24 => .boolean
  | 25 => .int
  | 26 => .int
  | 27 => .int
  | 28 => .int
  | _ => .int
theorem n_Model : ∀ a, a < 30 → ∀ b, b < 30 → a ≠ b → (F_Model a).2.1 ≠ (F_Model b).2.1 := by decide +kernel
theorem t_Model_ok : ∀ k, k < 30 → parseFieldDescriptor (F_Model k).2.2.1 = some (t_Model k) := by decide +kernel
abbrev classes : List vw_C := [(R_LazyMachine, F_LazyMachine, 13), (R_Heap, F_Heap, 9), (R_Pile, F_Pile, 5), (R_Term, F_Term, 7), (R_Model, F_Model, 30)]
def wd_0 : List Cond := [Cond.initialized R_Law, Cond.initialized R_LazyMachine, Cond.initialized R_Heap, Cond.initialized R_Pile, Cond.initialized R_Term, Cond.initialized R_Model, Cond.initialized "java/lang/Math", Cond.classLink R_Law 8 R_LazyMachine, Cond.instantiable R_LazyMachine 13, Cond.methodLink R_Law 33 y_LazyMachine_init, Cond.instanceMethod y_LazyMachine_init, Cond.code y_LazyMachine_init b_LazyMachine_init 1 none, Cond.methodLink R_LazyMachine 1 objectInit, Cond.instanceMethod objectInit, Cond.code objectInit ⟨#[0xb1]⟩ 1 none, Cond.classLink R_LazyMachine 7 R_Heap, Cond.instantiable R_Heap 9, Cond.methodLink R_LazyMachine 9 y_Heap_init, Cond.instanceMethod y_Heap_init, Cond.code y_Heap_init b_Heap_init 1 none, Cond.methodLink R_Heap 3 objectInit, Cond.fieldLink R_Heap 9 "LazyMachine$Heap" "states" "[I", Cond.fieldLink R_Heap 15 "LazyMachine$Heap" "firsts" "[I", Cond.fieldLink R_Heap 18 "LazyMachine$Heap" "seconds" "[I"]
def wd_1 : List Cond := [Cond.fieldLink R_Heap 21 "LazyMachine$Heap" "freeCells" "[I", Cond.fieldLink R_Heap 24 "LazyMachine$Heap" "marks" "[I", Cond.fieldLink R_Heap 27 "LazyMachine$Heap" "reached" "[I", Cond.fieldLink R_Heap 36 "LazyMachine$Heap" "free" "I", Cond.fieldLink R_Heap 48 "LazyMachine$Heap" "round" "I", Cond.fieldLink R_Heap 51 "LazyMachine$Heap" "reachedCount" "I", Cond.arrayClass .int, Cond.classLink R_LazyMachine 16 R_Pile, Cond.instantiable R_Pile 5, Cond.methodLink R_LazyMachine 18 y_Pile_init, Cond.instanceMethod y_Pile_init, Cond.code y_Pile_init b_Pile_init 1 none, Cond.methodLink R_Pile 3 objectInit, Cond.fieldLink R_Pile 9 "LazyMachine$Pile" "sorts" "[I", Cond.fieldLink R_Pile 15 "LazyMachine$Pile" "firsts" "[I", Cond.fieldLink R_Pile 18 "LazyMachine$Pile" "seconds" "[I", Cond.fieldLink R_Pile 21 "LazyMachine$Pile" "size" "I", Cond.fieldLink R_Pile 25 "LazyMachine$Pile" "most" "I", Cond.classLink R_LazyMachine 23 R_Term, Cond.instantiable R_Term 7, Cond.methodLink R_LazyMachine 25 y_Term_init, Cond.instanceMethod y_Term_init, Cond.code y_Term_init b_Term_init 1 none, Cond.methodLink R_Term 3 objectInit]
def wd_2 : List Cond := [Cond.fieldLink R_Term 9 "LazyMachine$Term" "sorts" "[I", Cond.fieldLink R_Term 15 "LazyMachine$Term" "xs" "[I", Cond.fieldLink R_Term 18 "LazyMachine$Term" "parts" "[I", Cond.fieldLink R_Term 21 "LazyMachine$Term" "partsCome" "[I", Cond.fieldLink R_Term 24 "LazyMachine$Term" "binders" "[I", Cond.fieldLink R_Term 27 "LazyMachine$Term" "open" "[I", Cond.fieldLink R_Term 30 "LazyMachine$Term" "size" "I", Cond.fieldLink R_LazyMachine 10 "LazyMachine" "heap" "LLazyMachine$Heap;", Cond.fieldLink R_LazyMachine 19 "LazyMachine" "pile" "LLazyMachine$Pile;", Cond.fieldLink R_LazyMachine 26 "LazyMachine" "waiting" "LLazyMachine$Term;", Cond.fieldLink R_LazyMachine 30 "LazyMachine" "term" "LLazyMachine$Term;", Cond.fieldLink R_LazyMachine 33 "LazyMachine" "status" "I", Cond.fieldLink R_LazyMachine 93 "LazyMachine" "steps" "I", Cond.fieldLink R_LazyMachine 122 "LazyMachine" "forced" "I", Cond.fieldLink R_LazyMachine 83 "LazyMachine" "back" "Z", Cond.fieldLink R_LazyMachine 132 "LazyMachine" "node" "I", Cond.fieldLink R_LazyMachine 37 "LazyMachine" "environment" "I", Cond.fieldLink R_LazyMachine 98 "LazyMachine" "valueSort" "I", Cond.fieldLink R_LazyMachine 40 "LazyMachine" "valueFirst" "I", Cond.fieldLink R_LazyMachine 43 "LazyMachine" "valueSecond" "I", Cond.methodLink R_Law 47 y_LazyMachine_load, Cond.instanceMethod y_LazyMachine_load, Cond.selects R_LazyMachine y_LazyMachine_load y_LazyMachine_load, Cond.code y_LazyMachine_load b_LazyMachine_load 3 (some .int)]
def wd_3 : List Cond := [Cond.methodLink R_LazyMachine 66 y_Term_settle, Cond.instanceMethod y_Term_settle, Cond.selects R_Term y_Term_settle y_Term_settle, Cond.code y_Term_settle b_Term_settle 3 (some .int), Cond.methodLink R_Term 34 y_Term_givePart, Cond.instanceMethod y_Term_givePart, Cond.code y_Term_givePart b_Term_givePart 4 (some .boolean), Cond.methodLink R_Term 41 y_Term_bindsIn, Cond.static y_Term_bindsIn, Cond.code y_Term_bindsIn b_Term_bindsIn 2 (some .boolean), Cond.methodLink R_LazyMachine 69 y_Term_clear, Cond.instanceMethod y_Term_clear, Cond.selects R_Term y_Term_clear y_Term_clear, Cond.code y_Term_clear b_Term_clear 1 none, Cond.methodLink R_LazyMachine 72 y_LazyMachine_begin, Cond.instanceMethod y_LazyMachine_begin, Cond.code y_LazyMachine_begin b_LazyMachine_begin 2 none, Cond.methodLink R_LazyMachine 138 y_Heap_empty, Cond.instanceMethod y_Heap_empty, Cond.selects R_Heap y_Heap_empty y_Heap_empty, Cond.code y_Heap_empty b_Heap_empty 1 none, Cond.methodLink R_Heap 30 y_Heap_beginMarks, Cond.instanceMethod y_Heap_beginMarks, Cond.selects R_Heap y_Heap_beginMarks y_Heap_beginMarks]
def wd_4 : List Cond := [Cond.code y_Heap_beginMarks b_Heap_beginMarks 1 none, Cond.methodLink R_Heap 33 y_Heap_freeUnreached, Cond.instanceMethod y_Heap_freeUnreached, Cond.selects R_Heap y_Heap_freeUnreached y_Heap_freeUnreached, Cond.code y_Heap_freeUnreached b_Heap_freeUnreached 2 none, Cond.methodLink R_LazyMachine 141 y_Pile_empty, Cond.instanceMethod y_Pile_empty, Cond.selects R_Pile y_Pile_empty y_Pile_empty, Cond.code y_Pile_empty b_Pile_empty 1 none, Cond.methodLink R_LazyMachine 142 y_LazyMachine_enter, Cond.instanceMethod y_LazyMachine_enter, Cond.code y_LazyMachine_enter b_LazyMachine_enter 3 none, Cond.methodLink R_Law 68 y_LazyMachine_count, Cond.instanceMethod y_LazyMachine_count, Cond.selects R_LazyMachine y_LazyMachine_count y_LazyMachine_count, Cond.code y_LazyMachine_count b_LazyMachine_count 2 (some .int), Cond.methodLink R_LazyMachine 62 y_Term_size, Cond.instanceMethod y_Term_size, Cond.selects R_Term y_Term_size y_Term_size, Cond.code y_Term_size b_Term_size 1 (some .int), Cond.methodLink R_LazyMachine 125 y_Pile_size, Cond.instanceMethod y_Pile_size, Cond.selects R_Pile y_Pile_size y_Pile_size, Cond.code y_Pile_size b_Pile_size 1 (some .int)]
def wd_5 : List Cond := [Cond.methodLink R_LazyMachine 126 y_LazyMachine_markRoots, Cond.instanceMethod y_LazyMachine_markRoots, Cond.code y_LazyMachine_markRoots b_LazyMachine_markRoots 1 none, Cond.methodLink R_LazyMachine 239 y_Heap_beginMarks, Cond.methodLink R_LazyMachine 242 y_Heap_reachFrom, Cond.instanceMethod y_Heap_reachFrom, Cond.selects R_Heap y_Heap_reachFrom y_Heap_reachFrom, Cond.code y_Heap_reachFrom b_Heap_reachFrom 4 none, Cond.methodLink R_Heap 54 y_Heap_reach, Cond.instanceMethod y_Heap_reach, Cond.selects R_Heap y_Heap_reach y_Heap_reach, Cond.code y_Heap_reach b_Heap_reach 2 none, Cond.methodLink R_LazyMachine 245 y_Heap_reach, Cond.methodLink R_LazyMachine 248 y_Pile_reachAll, Cond.instanceMethod y_Pile_reachAll, Cond.selects R_Pile y_Pile_reachAll y_Pile_reachAll, Cond.code y_Pile_reachAll b_Pile_reachAll 3 none, Cond.methodLink R_Pile 38 y_Heap_reach, Cond.methodLink R_LazyMachine 129 y_Heap_spreadMarks, Cond.instanceMethod y_Heap_spreadMarks, Cond.selects R_Heap y_Heap_spreadMarks y_Heap_spreadMarks, Cond.code y_Heap_spreadMarks b_Heap_spreadMarks 3 (some .int), Cond.methodLink R_Heap 58 y_Heap_reachFrom, Cond.methodLink R_LazyMachine 135 y_Pile_most]
def wd_6 : List Cond := [Cond.instanceMethod y_Pile_most, Cond.selects R_Pile y_Pile_most y_Pile_most, Cond.code y_Pile_most b_Pile_most 1 (some .int), Cond.methodLink R_Law 37 y_Law_put, Cond.static y_Law_put, Cond.classLink R_Law 13 "java/lang/IllegalArgumentException", Cond.methodLink R_Law 7 y_LazyMachine_put, Cond.instanceMethod y_LazyMachine_put, Cond.selects R_LazyMachine y_LazyMachine_put y_LazyMachine_put, Cond.code y_LazyMachine_put b_LazyMachine_put 3 (some .int), Cond.classLink R_LazyMachine 46 "java/lang/IllegalArgumentException", Cond.arrayClass .byte, Cond.methodLink R_LazyMachine 53 y_LazyMachine_mayBear, Cond.static y_LazyMachine_mayBear, Cond.code y_LazyMachine_mayBear b_LazyMachine_mayBear 2 (some .boolean), Cond.methodLink R_LazyMachine 59 y_Term_add, Cond.instanceMethod y_Term_add, Cond.selects R_Term y_Term_add y_Term_add, Cond.code y_Term_add b_Term_add 3 (some .boolean), Cond.methodLink R_Law 51 y_Law_restart, Cond.static y_Law_restart, Cond.classLink R_Law 18 "java/lang/IllegalStateException", Cond.methodLink R_Law 15 y_LazyMachine_restart, Cond.instanceMethod y_LazyMachine_restart]
def wd_7 : List Cond := [Cond.selects R_LazyMachine y_LazyMachine_restart y_LazyMachine_restart, Cond.code y_LazyMachine_restart b_LazyMachine_restart 1 none, Cond.classLink R_LazyMachine 76 "java/lang/IllegalStateException", Cond.methodLink R_Law 55 y_Law_run, Cond.static y_Law_run, Cond.methodLink R_Law 20 y_LazyMachine_run, Cond.instanceMethod y_LazyMachine_run, Cond.selects R_LazyMachine y_LazyMachine_run y_LazyMachine_run, Cond.code y_LazyMachine_run b_LazyMachine_run 3 (some .int), Cond.methodLink R_LazyMachine 87 y_LazyMachine_stepBack, Cond.instanceMethod y_LazyMachine_stepBack, Cond.code y_LazyMachine_stepBack b_LazyMachine_stepBack 2 (some .int), Cond.methodLink R_LazyMachine 190 y_Pile_topFirst, Cond.instanceMethod y_Pile_topFirst, Cond.selects R_Pile y_Pile_topFirst y_Pile_topFirst, Cond.code y_Pile_topFirst b_Pile_topFirst 1 (some .int), Cond.methodLink R_LazyMachine 193 y_Pile_topSort, Cond.instanceMethod y_Pile_topSort, Cond.selects R_Pile y_Pile_topSort y_Pile_topSort, Cond.code y_Pile_topSort b_Pile_topSort 1 (some .int), Cond.methodLink R_LazyMachine 196 y_Pile_drop, Cond.instanceMethod y_Pile_drop, Cond.selects R_Pile y_Pile_drop y_Pile_drop, Cond.code y_Pile_drop b_Pile_drop 1 none]
def wd_8 : List Cond := [Cond.methodLink R_LazyMachine 199 y_Heap_become, Cond.instanceMethod y_Heap_become, Cond.selects R_Heap y_Heap_become y_Heap_become, Cond.code y_Heap_become b_Heap_become 5 none, Cond.methodLink R_LazyMachine 203 y_LazyMachine_stepArgument, Cond.instanceMethod y_LazyMachine_stepArgument, Cond.code y_LazyMachine_stepArgument b_LazyMachine_stepArgument 2 (some .int), Cond.methodLink R_LazyMachine 111 y_LazyMachine_hasRoomFor, Cond.instanceMethod y_LazyMachine_hasRoomFor, Cond.code y_LazyMachine_hasRoomFor b_LazyMachine_hasRoomFor 2 (some .boolean), Cond.methodLink R_LazyMachine 233 y_Heap_free, Cond.instanceMethod y_Heap_free, Cond.selects R_Heap y_Heap_free y_Heap_free, Cond.code y_Heap_free b_Heap_free 1 (some .int), Cond.methodLink R_LazyMachine 236 y_Heap_freeUnreached, Cond.methodLink R_LazyMachine 119 y_LazyMachine_enterFunction, Cond.instanceMethod y_LazyMachine_enterFunction, Cond.code y_LazyMachine_enterFunction b_LazyMachine_enterFunction 2 none, Cond.methodLink R_LazyMachine 181 y_Term_part, Cond.instanceMethod y_Term_part, Cond.selects R_Term y_Term_part y_Term_part, Cond.code y_Term_part b_Term_part 3 (some .int), Cond.methodLink R_LazyMachine 115 y_Heap_take, Cond.instanceMethod y_Heap_take]
def wd_9 : List Cond := [Cond.selects R_Heap y_Heap_take y_Heap_take, Cond.code y_Heap_take b_Heap_take 5 (some .int), Cond.methodLink R_Heap 40 y_Heap_become, Cond.methodLink R_LazyMachine 206 y_Pile_topSecond, Cond.instanceMethod y_Pile_topSecond, Cond.selects R_Pile y_Pile_topSecond y_Pile_topSecond, Cond.code y_Pile_topSecond b_Pile_topSecond 1 (some .int), Cond.methodLink R_LazyMachine 209 y_LazyMachine_stepLeft, Cond.instanceMethod y_LazyMachine_stepLeft, Cond.code y_LazyMachine_stepLeft b_LazyMachine_stepLeft 3 (some .int), Cond.methodLink R_LazyMachine 178 y_Pile_add, Cond.instanceMethod y_Pile_add, Cond.selects R_Pile y_Pile_add y_Pile_add, Cond.code y_Pile_add b_Pile_add 4 none, Cond.methodLink R_Pile 28 y_Pile_isFull, Cond.instanceMethod y_Pile_isFull, Cond.selects R_Pile y_Pile_isFull y_Pile_isFull, Cond.code y_Pile_isFull b_Pile_isFull 1 (some .boolean), Cond.methodLink R_Pile 32 Lib.Math.max.name, Cond.static Lib.Math.max.name, Cond.code Lib.Math.max.name Lib.Math.max.code 2 (some .int), Cond.methodLink R_LazyMachine 212 y_LazyMachine_stepRight, Cond.instanceMethod y_LazyMachine_stepRight, Cond.code y_LazyMachine_stepRight b_LazyMachine_stepRight 3 (some .int)]
def wd_10 : List Cond := [Cond.methodLink R_LazyMachine 146 y_Term_sort, Cond.instanceMethod y_Term_sort, Cond.selects R_Term y_Term_sort y_Term_sort, Cond.code y_Term_sort b_Term_sort 2 (some .int), Cond.methodLink R_LazyMachine 221 y_LazyMachine_reckon, Cond.static y_LazyMachine_reckon, Cond.code y_LazyMachine_reckon b_LazyMachine_reckon 3 (some .int), Cond.methodLink R_LazyMachine 156 y_LazyMachine_backWith, Cond.instanceMethod y_LazyMachine_backWith, Cond.code y_LazyMachine_backWith b_LazyMachine_backWith 4 (some .int), Cond.methodLink R_LazyMachine 215 y_LazyMachine_stepTest, Cond.instanceMethod y_LazyMachine_stepTest, Cond.code y_LazyMachine_stepTest b_LazyMachine_stepTest 3 (some .int), Cond.methodLink R_LazyMachine 218 y_LazyMachine_stepPart, Cond.instanceMethod y_LazyMachine_stepPart, Cond.code y_LazyMachine_stepPart b_LazyMachine_stepPart 3 (some .int), Cond.methodLink R_LazyMachine 224 y_Heap_state, Cond.instanceMethod y_Heap_state, Cond.selects R_Heap y_Heap_state y_Heap_state, Cond.code y_Heap_state b_Heap_state 2 (some .int), Cond.methodLink R_LazyMachine 105 y_LazyMachine_ask, Cond.instanceMethod y_LazyMachine_ask, Cond.code y_LazyMachine_ask b_LazyMachine_ask 5 (some .int), Cond.methodLink R_LazyMachine 227 y_Heap_first]
def wd_11 : List Cond := [Cond.instanceMethod y_Heap_first, Cond.selects R_Heap y_Heap_first y_Heap_first, Cond.code y_Heap_first b_Heap_first 2 (some .int), Cond.methodLink R_LazyMachine 230 y_Heap_second, Cond.instanceMethod y_Heap_second, Cond.selects R_Heap y_Heap_second y_Heap_second, Cond.code y_Heap_second b_Heap_second 2 (some .int), Cond.methodLink R_LazyMachine 174 y_Pile_isFull, Cond.methodLink R_LazyMachine 90 y_LazyMachine_stepAt, Cond.instanceMethod y_LazyMachine_stepAt, Cond.code y_LazyMachine_stepAt b_LazyMachine_stepAt 1 (some .int), Cond.methodLink R_LazyMachine 149 y_Term_x, Cond.instanceMethod y_Term_x, Cond.selects R_Term y_Term_x y_Term_x, Cond.code y_Term_x b_Term_x 2 (some .int), Cond.methodLink R_LazyMachine 152 y_Heap_boundTo, Cond.instanceMethod y_Heap_boundTo, Cond.selects R_Heap y_Heap_boundTo y_Heap_boundTo, Cond.code y_Heap_boundTo b_Heap_boundTo 5 (some .int), Cond.methodLink R_Heap 44 y_Heap_first, Cond.methodLink R_LazyMachine 159 y_LazyMachine_stepApply, Cond.instanceMethod y_LazyMachine_stepApply, Cond.code y_LazyMachine_stepApply b_LazyMachine_stepApply 2 (some .int), Cond.methodLink R_LazyMachine 184 y_LazyMachine_cellsFor]
def wd_12 : List Cond := [Cond.instanceMethod y_LazyMachine_cellsFor, Cond.code y_LazyMachine_cellsFor b_LazyMachine_cellsFor 2 (some .int), Cond.methodLink R_LazyMachine 187 y_LazyMachine_thunkFor, Cond.instanceMethod y_LazyMachine_thunkFor, Cond.code y_LazyMachine_thunkFor b_LazyMachine_thunkFor 2 (some .int), Cond.methodLink R_LazyMachine 162 y_LazyMachine_stepUnder, Cond.instanceMethod y_LazyMachine_stepUnder, Cond.code y_LazyMachine_stepUnder b_LazyMachine_stepUnder 4 (some .int), Cond.methodLink R_LazyMachine 165 y_LazyMachine_stepFix, Cond.instanceMethod y_LazyMachine_stepFix, Cond.code y_LazyMachine_stepFix b_LazyMachine_stepFix 2 (some .int), Cond.methodLink R_LazyMachine 168 y_LazyMachine_stepLet, Cond.instanceMethod y_LazyMachine_stepLet, Cond.code y_LazyMachine_stepLet b_LazyMachine_stepLet 3 (some .int), Cond.methodLink R_LazyMachine 171 y_LazyMachine_stepPair, Cond.instanceMethod y_LazyMachine_stepPair, Cond.code y_LazyMachine_stepPair b_LazyMachine_stepPair 4 (some .int), Cond.methodLink R_Law 59 y_Law_result, Cond.static y_Law_result, Cond.methodLink R_Law 24 y_LazyMachine_result, Cond.instanceMethod y_LazyMachine_result, Cond.selects R_LazyMachine y_LazyMachine_result y_LazyMachine_result, Cond.code y_LazyMachine_result b_LazyMachine_result 3 (some .int), Cond.methodLink R_Law 62 y_Law_into]
def wd_13 : List Cond := [Cond.static y_Law_into, Cond.methodLink R_Law 27 y_LazyMachine_into, Cond.instanceMethod y_LazyMachine_into, Cond.selects R_LazyMachine y_LazyMachine_into y_LazyMachine_into, Cond.code y_LazyMachine_into b_LazyMachine_into 2 (some .int), Cond.methodLink R_Law 65 y_Law_apply, Cond.static y_Law_apply, Cond.methodLink R_Law 30 y_LazyMachine_apply, Cond.instanceMethod y_LazyMachine_apply, Cond.selects R_LazyMachine y_LazyMachine_apply y_LazyMachine_apply, Cond.code y_LazyMachine_apply b_LazyMachine_apply 2 (some .int), Cond.classLink R_Law 34 R_Model, Cond.instantiable R_Model 30, Cond.methodLink R_Law 36 y_Model_init, Cond.instanceMethod y_Model_init, Cond.code y_Model_init b_Model_init 1 none, Cond.methodLink R_Model 1 objectInit, Cond.fieldLink R_Model 56 "LazyMachineModel" "thrown" "I", Cond.fieldLink R_Model 7 "LazyMachineModel" "sorts" "[I", Cond.fieldLink R_Model 13 "LazyMachineModel" "xs" "[I", Cond.fieldLink R_Model 64 "LazyMachineModel" "told" "I", Cond.fieldLink R_Model 16 "LazyMachineModel" "sort" "[I", Cond.fieldLink R_Model 19 "LazyMachineModel" "number" "[I", Cond.fieldLink R_Model 22 "LazyMachineModel" "child" "[I"]
def wd_14 : List Cond := [Cond.fieldLink R_Model 67 "LazyMachineModel" "size" "I", Cond.fieldLink R_Model 25 "LazyMachineModel" "owner" "[I", Cond.fieldLink R_Model 28 "LazyMachineModel" "around" "[I", Cond.fieldLink R_Model 31 "LazyMachineModel" "is" "[I", Cond.fieldLink R_Model 34 "LazyMachineModel" "one" "[I", Cond.fieldLink R_Model 37 "LazyMachineModel" "two" "[I", Cond.fieldLink R_Model 40 "LazyMachineModel" "reached" "[Z", Cond.fieldLink R_Model 44 "LazyMachineModel" "todo" "[I", Cond.fieldLink R_Model 102 "LazyMachineModel" "left" "I", Cond.fieldLink R_Model 47 "LazyMachineModel" "what" "[I", Cond.fieldLink R_Model 50 "LazyMachineModel" "first" "[I", Cond.fieldLink R_Model 53 "LazyMachineModel" "second" "[I", Cond.fieldLink R_Model 86 "LazyMachineModel" "frames" "I", Cond.fieldLink R_Model 89 "LazyMachineModel" "most" "I", Cond.fieldLink R_Model 70 "LazyMachineModel" "status" "I", Cond.fieldLink R_Model 80 "LazyMachineModel" "steps" "I", Cond.fieldLink R_Model 83 "LazyMachineModel" "forced" "I", Cond.fieldLink R_Model 92 "LazyMachineModel" "back" "Z", Cond.fieldLink R_Model 96 "LazyMachineModel" "node" "I", Cond.fieldLink R_Model 99 "LazyMachineModel" "environment" "I", Cond.fieldLink R_Model 109 "LazyMachineModel" "valueSort" "I", Cond.fieldLink R_Model 112 "LazyMachineModel" "valueOne" "I", Cond.fieldLink R_Model 115 "LazyMachineModel" "valueTwo" "I", Cond.arrayClass .boolean]
def wd_15 : List Cond := [Cond.methodLink R_Law 43 y_Model_thrown, Cond.instanceMethod y_Model_thrown, Cond.selects R_Model y_Model_thrown y_Model_thrown, Cond.code y_Model_thrown b_Model_thrown 1 (some .int), Cond.methodLink R_Law 42 y_Model_put, Cond.instanceMethod y_Model_put, Cond.selects R_Model y_Model_put y_Model_put, Cond.code y_Model_put b_Model_put 4 (some .int), Cond.methodLink R_Model 60 y_Model_fails, Cond.instanceMethod y_Model_fails, Cond.code y_Model_fails b_Model_fails 3 (some .boolean), Cond.methodLink R_Law 50 y_Model_load, Cond.instanceMethod y_Model_load, Cond.selects R_Model y_Model_load y_Model_load, Cond.code y_Model_load b_Model_load 8 (some .int), Cond.methodLink R_Model 73 y_Model_many, Cond.static y_Model_many, Cond.code y_Model_many b_Model_many 1 (some .int), Cond.methodLink R_Model 77 y_Model_begin, Cond.instanceMethod y_Model_begin, Cond.code y_Model_begin b_Model_begin 1 none, Cond.methodLink R_Law 54 y_Model_restart, Cond.instanceMethod y_Model_restart, Cond.selects R_Model y_Model_restart y_Model_restart]
def wd_16 : List Cond := [Cond.code y_Model_restart b_Model_restart 1 none, Cond.methodLink R_Law 58 y_Model_run, Cond.instanceMethod y_Model_run, Cond.selects R_Model y_Model_run y_Model_run, Cond.code y_Model_run b_Model_run 4 (some .int), Cond.methodLink R_Model 170 y_Model_returns, Cond.instanceMethod y_Model_returns, Cond.code y_Model_returns b_Model_returns 6 (some .boolean), Cond.methodLink R_Model 129 y_Model_stops, Cond.instanceMethod y_Model_stops, Cond.code y_Model_stops b_Model_stops 2 (some .boolean), Cond.methodLink R_Model 158 y_Model_isFull, Cond.instanceMethod y_Model_isFull, Cond.code y_Model_isFull b_Model_isFull 2 (some .boolean), Cond.methodLink R_Model 133 y_Model_mark, Cond.instanceMethod y_Model_mark, Cond.code y_Model_mark b_Model_mark 3 (some .int), Cond.methodLink R_Model 118 y_Model_meetValue, Cond.instanceMethod y_Model_meetValue, Cond.code y_Model_meetValue b_Model_meetValue 4 none, Cond.methodLink R_Model 105 y_Model_meet, Cond.instanceMethod y_Model_meet, Cond.code y_Model_meet b_Model_meet 2 none, Cond.methodLink R_Model 125 y_Model_cell]
def wd_17 : List Cond := [Cond.instanceMethod y_Model_cell, Cond.code y_Model_cell b_Model_cell 5 (some .int), Cond.methodLink R_Model 147 y_Model_go, Cond.instanceMethod y_Model_go, Cond.code y_Model_go b_Model_go 3 none, Cond.methodLink R_Model 144 y_Model_push, Cond.instanceMethod y_Model_push, Cond.code y_Model_push b_Model_push 4 none, Cond.methodLink R_Model 164 y_Model_reckoned, Cond.static y_Model_reckoned, Cond.code y_Model_reckoned b_Model_reckoned 3 (some .int), Cond.methodLink R_Model 137 y_Model_give, Cond.instanceMethod y_Model_give, Cond.code y_Model_give b_Model_give 4 none, Cond.methodLink R_Model 167 y_Model_part, Cond.instanceMethod y_Model_part, Cond.code y_Model_part b_Model_part 3 (some .boolean), Cond.methodLink R_Model 151 y_Model_asks, Cond.instanceMethod y_Model_asks, Cond.code y_Model_asks b_Model_asks 5 (some .boolean), Cond.methodLink R_Model 140 y_Model_isHigh, Cond.instanceMethod y_Model_isHigh, Cond.code y_Model_isHigh b_Model_isHigh 1 (some .boolean), Cond.methodLink R_Model 173 y_Model_at]
def wd_18 : List Cond := [Cond.instanceMethod y_Model_at, Cond.code y_Model_at b_Model_at 9 (some .boolean), Cond.methodLink R_Model 122 y_Model_bound, Cond.instanceMethod y_Model_bound, Cond.code y_Model_bound b_Model_bound 4 (some .int), Cond.methodLink R_Model 155 y_Model_costs, Cond.instanceMethod y_Model_costs, Cond.code y_Model_costs b_Model_costs 2 (some .int), Cond.methodLink R_Model 161 y_Model_thunk, Cond.instanceMethod y_Model_thunk, Cond.code y_Model_thunk b_Model_thunk 2 (some .int), Cond.methodLink R_Law 61 y_Model_result, Cond.instanceMethod y_Model_result, Cond.selects R_Model y_Model_result y_Model_result, Cond.code y_Model_result b_Model_result 2 (some .int), Cond.methodLink R_Law 64 y_Model_into, Cond.instanceMethod y_Model_into, Cond.selects R_Model y_Model_into y_Model_into, Cond.code y_Model_into b_Model_into 3 (some .int), Cond.methodLink R_Law 67 y_Model_apply, Cond.instanceMethod y_Model_apply, Cond.selects R_Model y_Model_apply y_Model_apply, Cond.code y_Model_apply b_Model_apply 4 (some .int), Cond.methodLink R_Law 71 y_Model_count]
def wd_19 : List Cond := [Cond.instanceMethod y_Model_count, Cond.selects R_Model y_Model_count y_Model_count, Cond.code y_Model_count b_Model_count 3 (some .int), Cond.arrayClass .long, Cond.selects R_Term y_Term_givePart y_Term_givePart, Cond.selects R_LazyMachine y_LazyMachine_begin y_LazyMachine_begin, Cond.selects R_LazyMachine y_LazyMachine_enter y_LazyMachine_enter, Cond.selects R_LazyMachine y_LazyMachine_markRoots y_LazyMachine_markRoots, Cond.selects R_LazyMachine y_LazyMachine_stepBack y_LazyMachine_stepBack, Cond.selects R_LazyMachine y_LazyMachine_stepArgument y_LazyMachine_stepArgument, Cond.selects R_LazyMachine y_LazyMachine_hasRoomFor y_LazyMachine_hasRoomFor, Cond.selects R_LazyMachine y_LazyMachine_enterFunction y_LazyMachine_enterFunction, Cond.selects R_LazyMachine y_LazyMachine_stepLeft y_LazyMachine_stepLeft, Cond.selects R_LazyMachine y_LazyMachine_stepRight y_LazyMachine_stepRight, Cond.selects R_LazyMachine y_LazyMachine_backWith y_LazyMachine_backWith, Cond.selects R_LazyMachine y_LazyMachine_stepTest y_LazyMachine_stepTest, Cond.selects R_LazyMachine y_LazyMachine_stepPart y_LazyMachine_stepPart, Cond.selects R_LazyMachine y_LazyMachine_ask y_LazyMachine_ask, Cond.selects R_LazyMachine y_LazyMachine_stepAt y_LazyMachine_stepAt, Cond.selects R_LazyMachine y_LazyMachine_stepApply y_LazyMachine_stepApply, Cond.selects R_LazyMachine y_LazyMachine_cellsFor y_LazyMachine_cellsFor, Cond.selects R_LazyMachine y_LazyMachine_thunkFor y_LazyMachine_thunkFor, Cond.selects R_LazyMachine y_LazyMachine_stepUnder y_LazyMachine_stepUnder, Cond.selects R_LazyMachine y_LazyMachine_stepFix y_LazyMachine_stepFix]
def wd_20 : List Cond := [Cond.selects R_LazyMachine y_LazyMachine_stepLet y_LazyMachine_stepLet, Cond.selects R_LazyMachine y_LazyMachine_stepPair y_LazyMachine_stepPair, Cond.selects R_Model y_Model_fails y_Model_fails, Cond.selects R_Model y_Model_begin y_Model_begin, Cond.selects R_Model y_Model_returns y_Model_returns, Cond.selects R_Model y_Model_stops y_Model_stops, Cond.selects R_Model y_Model_isFull y_Model_isFull, Cond.selects R_Model y_Model_mark y_Model_mark, Cond.selects R_Model y_Model_meetValue y_Model_meetValue, Cond.selects R_Model y_Model_meet y_Model_meet, Cond.selects R_Model y_Model_cell y_Model_cell, Cond.selects R_Model y_Model_go y_Model_go, Cond.selects R_Model y_Model_push y_Model_push, Cond.selects R_Model y_Model_give y_Model_give, Cond.selects R_Model y_Model_part y_Model_part, Cond.selects R_Model y_Model_asks y_Model_asks, Cond.selects R_Model y_Model_isHigh y_Model_isHigh, Cond.selects R_Model y_Model_at y_Model_at, Cond.selects R_Model y_Model_bound y_Model_bound, Cond.selects R_Model y_Model_costs y_Model_costs, Cond.selects R_Model y_Model_thunk y_Model_thunk]
def wd : List Cond := wd_0 ++ (wd_1 ++ (wd_2 ++ (wd_3 ++ (wd_4 ++ (wd_5 ++ (wd_6 ++ (wd_7 ++ (wd_8 ++ (wd_9 ++ (wd_10 ++ (wd_11 ++ (wd_12 ++ (wd_13 ++ (wd_14 ++ (wd_15 ++ (wd_16 ++ (wd_17 ++ (wd_18 ++ (wd_19 ++ (wd_20 ++ (u_ws R_LazyMachine F_LazyMachine 13 ++ (u_ws R_Heap F_Heap 9 ++ (u_ws R_Pile F_Pile 5 ++ (u_ws R_Term F_Term 7 ++ (u_ws R_Model F_Model 30)))))))))))))))))))))))))
theorem wi_0 : ∀ w ∈ wd_0, w ∈ wd := fun _ h => (List.mem_append_left _ h)
theorem wi_1 : ∀ w ∈ wd_1, w ∈ wd := fun _ h => (List.mem_append_right _ (List.mem_append_left _ h))
theorem wi_2 : ∀ w ∈ wd_2, w ∈ wd := fun _ h => (List.mem_append_right _ (List.mem_append_right _ (List.mem_append_left _ h)))
theorem wi_3 : ∀ w ∈ wd_3, w ∈ wd := fun _ h => (List.mem_append_right _ (List.mem_append_right _ (List.mem_append_right _ (List.mem_append_left _ h))))
theorem wi_4 : ∀ w ∈ wd_4, w ∈ wd := fun _ h => (List.mem_append_right _ (List.mem_append_right _ (List.mem_append_right _ (List.mem_append_right _ (List.mem_append_left _ h)))))
theorem wi_5 : ∀ w ∈ wd_5, w ∈ wd := fun _ h => (List.mem_append_right _ (List.mem_append_right _ (List.mem_append_right _ (List.mem_append_right _ (List.mem_append_right _ (List.mem_append_left _ h))))))
theorem wi_6 : ∀ w ∈ wd_6, w ∈ wd := fun _ h => (List.mem_append_right _ (List.mem_append_right _ (List.mem_append_right _ (List.mem_append_right _ (List.mem_append_right _ (List.mem_append_right _ (List.mem_append_left _ h)))))))
theorem wi_7 : ∀ w ∈ wd_7, w ∈ wd := fun _ h => (List.mem_append_right _ (List.mem_append_right _ (List.mem_append_right _ (List.mem_append_right _ (List.mem_append_right _ (List.mem_append_right _ (List.mem_append_right _ (List.mem_append_left _ h))))))))
theorem wi_8 : ∀ w ∈ wd_8, w ∈ wd := fun _ h => (List.mem_append_right _ (List.mem_append_right _ (List.mem_append_right _ (List.mem_append_right _ (List.mem_append_right _ (List.mem_append_right _ (List.mem_append_right _ (List.mem_append_right _ (List.mem_append_left _ h)))))))))
theorem wi_9 : ∀ w ∈ wd_9, w ∈ wd := fun _ h => (List.mem_append_right _ (List.mem_append_right _ (List.mem_append_right _ (List.mem_append_right _ (List.mem_append_right _ (List.mem_append_right _ (List.mem_append_right _ (List.mem_append_right _ (List.mem_append_right _ (List.mem_append_left _ h))))))))))
theorem wi_10 : ∀ w ∈ wd_10, w ∈ wd := fun _ h => (List.mem_append_right _ (List.mem_append_right _ (List.mem_append_right _ (List.mem_append_right _ (List.mem_append_right _ (List.mem_append_right _ (List.mem_append_right _ (List.mem_append_right _ (List.mem_append_right _ (List.mem_append_right _ (List.mem_append_left _ h)))))))))))
theorem wi_11 : ∀ w ∈ wd_11, w ∈ wd := fun _ h => (List.mem_append_right _ (List.mem_append_right _ (List.mem_append_right _ (List.mem_append_right _ (List.mem_append_right _ (List.mem_append_right _ (List.mem_append_right _ (List.mem_append_right _ (List.mem_append_right _ (List.mem_append_right _ (List.mem_append_right _ (List.mem_append_left _ h))))))))))))
theorem wi_12 : ∀ w ∈ wd_12, w ∈ wd := fun _ h => (List.mem_append_right _ (List.mem_append_right _ (List.mem_append_right _ (List.mem_append_right _ (List.mem_append_right _ (List.mem_append_right _ (List.mem_append_right _ (List.mem_append_right _ (List.mem_append_right _ (List.mem_append_right _ (List.mem_append_right _ (List.mem_append_right _ (List.mem_append_left _ h)))))))))))))
theorem wi_13 : ∀ w ∈ wd_13, w ∈ wd := fun _ h => (List.mem_append_right _ (List.mem_append_right _ (List.mem_append_right _ (List.mem_append_right _ (List.mem_append_right _ (List.mem_append_right _ (List.mem_append_right _ (List.mem_append_right _ (List.mem_append_right _ (List.mem_append_right _ (List.mem_append_right _ (List.mem_append_right _ (List.mem_append_right _ (List.mem_append_left _ h))))))))))))))
theorem wi_14 : ∀ w ∈ wd_14, w ∈ wd := fun _ h => (List.mem_append_right _ (List.mem_append_right _ (List.mem_append_right _ (List.mem_append_right _ (List.mem_append_right _ (List.mem_append_right _ (List.mem_append_right _ (List.mem_append_right _ (List.mem_append_right _ (List.mem_append_right _ (List.mem_append_right _ (List.mem_append_right _ (List.mem_append_right _ (List.mem_append_right _ (List.mem_append_left _ h)))))))))))))))
theorem wi_15 : ∀ w ∈ wd_15, w ∈ wd := fun _ h => (List.mem_append_right _ (List.mem_append_right _ (List.mem_append_right _ (List.mem_append_right _ (List.mem_append_right _ (List.mem_append_right _ (List.mem_append_right _ (List.mem_append_right _ (List.mem_append_right _ (List.mem_append_right _ (List.mem_append_right _ (List.mem_append_right _ (List.mem_append_right _ (List.mem_append_right _ (List.mem_append_right _ (List.mem_append_left _ h))))))))))))))))
theorem wi_16 : ∀ w ∈ wd_16, w ∈ wd := fun _ h => (List.mem_append_right _ (List.mem_append_right _ (List.mem_append_right _ (List.mem_append_right _ (List.mem_append_right _ (List.mem_append_right _ (List.mem_append_right _ (List.mem_append_right _ (List.mem_append_right _ (List.mem_append_right _ (List.mem_append_right _ (List.mem_append_right _ (List.mem_append_right _ (List.mem_append_right _ (List.mem_append_right _ (List.mem_append_right _ (List.mem_append_left _ h)))))))))))))))))
theorem wi_17 : ∀ w ∈ wd_17, w ∈ wd := fun _ h => (List.mem_append_right _ (List.mem_append_right _ (List.mem_append_right _ (List.mem_append_right _ (List.mem_append_right _ (List.mem_append_right _ (List.mem_append_right _ (List.mem_append_right _ (List.mem_append_right _ (List.mem_append_right _ (List.mem_append_right _ (List.mem_append_right _ (List.mem_append_right _ (List.mem_append_right _ (List.mem_append_right _ (List.mem_append_right _ (List.mem_append_right _ (List.mem_append_left _ h))))))))))))))))))
theorem wi_18 : ∀ w ∈ wd_18, w ∈ wd := fun _ h => (List.mem_append_right _ (List.mem_append_right _ (List.mem_append_right _ (List.mem_append_right _ (List.mem_append_right _ (List.mem_append_right _ (List.mem_append_right _ (List.mem_append_right _ (List.mem_append_right _ (List.mem_append_right _ (List.mem_append_right _ (List.mem_append_right _ (List.mem_append_right _ (List.mem_append_right _ (List.mem_append_right _ (List.mem_append_right _ (List.mem_append_right _ (List.mem_append_right _ (List.mem_append_left _ h)))))))))))))))))))
theorem wi_19 : ∀ w ∈ wd_19, w ∈ wd := fun _ h => (List.mem_append_right _ (List.mem_append_right _ (List.mem_append_right _ (List.mem_append_right _ (List.mem_append_right _ (List.mem_append_right _ (List.mem_append_right _ (List.mem_append_right _ (List.mem_append_right _ (List.mem_append_right _ (List.mem_append_right _ (List.mem_append_right _ (List.mem_append_right _ (List.mem_append_right _ (List.mem_append_right _ (List.mem_append_right _ (List.mem_append_right _ (List.mem_append_right _ (List.mem_append_right _ (List.mem_append_left _ h))))))))))))))))))))
theorem wi_20 : ∀ w ∈ wd_20, w ∈ wd := fun _ h => (List.mem_append_right _ (List.mem_append_right _ (List.mem_append_right _ (List.mem_append_right _ (List.mem_append_right _ (List.mem_append_right _ (List.mem_append_right _ (List.mem_append_right _ (List.mem_append_right _ (List.mem_append_right _ (List.mem_append_right _ (List.mem_append_right _ (List.mem_append_right _ (List.mem_append_right _ (List.mem_append_right _ (List.mem_append_right _ (List.mem_append_right _ (List.mem_append_right _ (List.mem_append_right _ (List.mem_append_right _ (List.mem_append_left _ h)))))))))))))))))))))
theorem i_LazyMachine : ∀ w ∈ u_ws R_LazyMachine F_LazyMachine 13, w ∈ wd := fun _ h => (List.mem_append_right _ (List.mem_append_right _ (List.mem_append_right _ (List.mem_append_right _ (List.mem_append_right _ (List.mem_append_right _ (List.mem_append_right _ (List.mem_append_right _ (List.mem_append_right _ (List.mem_append_right _ (List.mem_append_right _ (List.mem_append_right _ (List.mem_append_right _ (List.mem_append_right _ (List.mem_append_right _ (List.mem_append_right _ (List.mem_append_right _ (List.mem_append_right _ (List.mem_append_right _ (List.mem_append_right _ (List.mem_append_right _ (List.mem_append_left _ h))))))))))))))))))))))
theorem i_Heap : ∀ w ∈ u_ws R_Heap F_Heap 9, w ∈ wd := fun _ h => (List.mem_append_right _ (List.mem_append_right _ (List.mem_append_right _ (List.mem_append_right _ (List.mem_append_right _ (List.mem_append_right _ (List.mem_append_right _ (List.mem_append_right _ (List.mem_append_right _ (List.mem_append_right _ (List.mem_append_right _ (List.mem_append_right _ (List.mem_append_right _ (List.mem_append_right _ (List.mem_append_right _ (List.mem_append_right _ (List.mem_append_right _ (List.mem_append_right _ (List.mem_append_right _ (List.mem_append_right _ (List.mem_append_right _ (List.mem_append_right _ (List.mem_append_left _ h)))))))))))))))))))))))
theorem i_Pile : ∀ w ∈ u_ws R_Pile F_Pile 5, w ∈ wd := fun _ h => (List.mem_append_right _ (List.mem_append_right _ (List.mem_append_right _ (List.mem_append_right _ (List.mem_append_right _ (List.mem_append_right _ (List.mem_append_right _ (List.mem_append_right _ (List.mem_append_right _ (List.mem_append_right _ (List.mem_append_right _ (List.mem_append_right _ (List.mem_append_right _ (List.mem_append_right _ (List.mem_append_right _ (List.mem_append_right _ (List.mem_append_right _ (List.mem_append_right _ (List.mem_append_right _ (List.mem_append_right _ (List.mem_append_right _ (List.mem_append_right _ (List.mem_append_right _ (List.mem_append_left _ h))))))))))))))))))))))))
theorem i_Term : ∀ w ∈ u_ws R_Term F_Term 7, w ∈ wd := fun _ h => (List.mem_append_right _ (List.mem_append_right _ (List.mem_append_right _ (List.mem_append_right _ (List.mem_append_right _ (List.mem_append_right _ (List.mem_append_right _ (List.mem_append_right _ (List.mem_append_right _ (List.mem_append_right _ (List.mem_append_right _ (List.mem_append_right _ (List.mem_append_right _ (List.mem_append_right _ (List.mem_append_right _ (List.mem_append_right _ (List.mem_append_right _ (List.mem_append_right _ (List.mem_append_right _ (List.mem_append_right _ (List.mem_append_right _ (List.mem_append_right _ (List.mem_append_right _ (List.mem_append_right _ (List.mem_append_left _ h)))))))))))))))))))))))))
theorem i_Model : ∀ w ∈ u_ws R_Model F_Model 30, w ∈ wd := fun _ h => (List.mem_append_right _ (List.mem_append_right _ (List.mem_append_right _ (List.mem_append_right _ (List.mem_append_right _ (List.mem_append_right _ (List.mem_append_right _ (List.mem_append_right _ (List.mem_append_right _ (List.mem_append_right _ (List.mem_append_right _ (List.mem_append_right _ (List.mem_append_right _ (List.mem_append_right _ (List.mem_append_right _ (List.mem_append_right _ (List.mem_append_right _ (List.mem_append_right _ (List.mem_append_right _ (List.mem_append_right _ (List.mem_append_right _ (List.mem_append_right _ (List.mem_append_right _ (List.mem_append_right _ (List.mem_append_right _ h)))))))))))))))))))))))))
theorem wd_good : wd.all goodWord = true := by decide +kernel
theorem m_0_0 : Cond.initialized R_Law ∈ wd := wi_0 _ (List.mem_of_getElem? (i := 0) rfl)
theorem m_0_1 : Cond.initialized R_LazyMachine ∈ wd := wi_0 _ (List.mem_of_getElem? (i := 1) rfl)
theorem m_0_2 : Cond.initialized R_Heap ∈ wd := wi_0 _ (List.mem_of_getElem? (i := 2) rfl)
theorem m_0_3 : Cond.initialized R_Pile ∈ wd := wi_0 _ (List.mem_of_getElem? (i := 3) rfl)
theorem m_0_4 : Cond.initialized R_Term ∈ wd := wi_0 _ (List.mem_of_getElem? (i := 4) rfl)
theorem m_0_5 : Cond.initialized R_Model ∈ wd := wi_0 _ (List.mem_of_getElem? (i := 5) rfl)
theorem m_0_6 : Cond.initialized "java/lang/Math" ∈ wd := wi_0 _ (List.mem_of_getElem? (i := 6) rfl)
theorem m_0_7 : Cond.classLink R_Law 8 R_LazyMachine ∈ wd := wi_0 _ (List.mem_of_getElem? (i := 7) rfl)
theorem m_0_8 : Cond.instantiable R_LazyMachine 13 ∈ wd := wi_0 _ (List.mem_of_getElem? (i := 8) rfl)
theorem m_0_9 : Cond.methodLink R_Law 33 y_LazyMachine_init ∈ wd := wi_0 _ (List.mem_of_getElem? (i := 9) rfl)
theorem m_0_10 : Cond.instanceMethod y_LazyMachine_init ∈ wd := wi_0 _ (List.mem_of_getElem? (i := 10) rfl)
theorem m_0_11 : Cond.code y_LazyMachine_init b_LazyMachine_init 1 none ∈ wd := wi_0 _ (List.mem_of_getElem? (i := 11) rfl)
theorem m_0_12 : Cond.methodLink R_LazyMachine 1 objectInit ∈ wd := wi_0 _ (List.mem_of_getElem? (i := 12) rfl)
theorem m_0_13 : Cond.instanceMethod objectInit ∈ wd := wi_0 _ (List.mem_of_getElem? (i := 13) rfl)
theorem m_0_14 : Cond.code objectInit ⟨#[0xb1]⟩ 1 none ∈ wd := wi_0 _ (List.mem_of_getElem? (i := 14) rfl)
theorem m_0_15 : Cond.classLink R_LazyMachine 7 R_Heap ∈ wd := wi_0 _ (List.mem_of_getElem? (i := 15) rfl)
theorem m_0_16 : Cond.instantiable R_Heap 9 ∈ wd := wi_0 _ (List.mem_of_getElem? (i := 16) rfl)
theorem m_0_17 : Cond.methodLink R_LazyMachine 9 y_Heap_init ∈ wd := wi_0 _ (List.mem_of_getElem? (i := 17) rfl)
theorem m_0_18 : Cond.instanceMethod y_Heap_init ∈ wd := wi_0 _ (List.mem_of_getElem? (i := 18) rfl)
theorem m_0_19 : Cond.code y_Heap_init b_Heap_init 1 none ∈ wd := wi_0 _ (List.mem_of_getElem? (i := 19) rfl)
theorem m_0_20 : Cond.methodLink R_Heap 3 objectInit ∈ wd := wi_0 _ (List.mem_of_getElem? (i := 20) rfl)
theorem m_0_21 : Cond.fieldLink R_Heap 9 "LazyMachine$Heap" "states" "[I" ∈ wd := wi_0 _ (List.mem_of_getElem? (i := 21) rfl)
theorem m_0_22 : Cond.fieldLink R_Heap 15 "LazyMachine$Heap" "firsts" "[I" ∈ wd := wi_0 _ (List.mem_of_getElem? (i := 22) rfl)
theorem m_0_23 : Cond.fieldLink R_Heap 18 "LazyMachine$Heap" "seconds" "[I" ∈ wd := wi_0 _ (List.mem_of_getElem? (i := 23) rfl)
theorem m_1_0 : Cond.fieldLink R_Heap 21 "LazyMachine$Heap" "freeCells" "[I" ∈ wd := wi_1 _ (List.mem_of_getElem? (i := 0) rfl)
theorem m_1_1 : Cond.fieldLink R_Heap 24 "LazyMachine$Heap" "marks" "[I" ∈ wd := wi_1 _ (List.mem_of_getElem? (i := 1) rfl)
theorem m_1_2 : Cond.fieldLink R_Heap 27 "LazyMachine$Heap" "reached" "[I" ∈ wd := wi_1 _ (List.mem_of_getElem? (i := 2) rfl)
theorem m_1_3 : Cond.fieldLink R_Heap 36 "LazyMachine$Heap" "free" "I" ∈ wd := wi_1 _ (List.mem_of_getElem? (i := 3) rfl)
theorem m_1_4 : Cond.fieldLink R_Heap 48 "LazyMachine$Heap" "round" "I" ∈ wd := wi_1 _ (List.mem_of_getElem? (i := 4) rfl)
theorem m_1_5 : Cond.fieldLink R_Heap 51 "LazyMachine$Heap" "reachedCount" "I" ∈ wd := wi_1 _ (List.mem_of_getElem? (i := 5) rfl)
theorem m_1_6 : Cond.arrayClass .int ∈ wd := wi_1 _ (List.mem_of_getElem? (i := 6) rfl)
theorem m_1_7 : Cond.classLink R_LazyMachine 16 R_Pile ∈ wd := wi_1 _ (List.mem_of_getElem? (i := 7) rfl)
theorem m_1_8 : Cond.instantiable R_Pile 5 ∈ wd := wi_1 _ (List.mem_of_getElem? (i := 8) rfl)
theorem m_1_9 : Cond.methodLink R_LazyMachine 18 y_Pile_init ∈ wd := wi_1 _ (List.mem_of_getElem? (i := 9) rfl)
theorem m_1_10 : Cond.instanceMethod y_Pile_init ∈ wd := wi_1 _ (List.mem_of_getElem? (i := 10) rfl)
theorem m_1_11 : Cond.code y_Pile_init b_Pile_init 1 none ∈ wd := wi_1 _ (List.mem_of_getElem? (i := 11) rfl)
theorem m_1_12 : Cond.methodLink R_Pile 3 objectInit ∈ wd := wi_1 _ (List.mem_of_getElem? (i := 12) rfl)
theorem m_1_13 : Cond.fieldLink R_Pile 9 "LazyMachine$Pile" "sorts" "[I" ∈ wd := wi_1 _ (List.mem_of_getElem? (i := 13) rfl)
theorem m_1_14 : Cond.fieldLink R_Pile 15 "LazyMachine$Pile" "firsts" "[I" ∈ wd := wi_1 _ (List.mem_of_getElem? (i := 14) rfl)
theorem m_1_15 : Cond.fieldLink R_Pile 18 "LazyMachine$Pile" "seconds" "[I" ∈ wd := wi_1 _ (List.mem_of_getElem? (i := 15) rfl)
theorem m_1_16 : Cond.fieldLink R_Pile 21 "LazyMachine$Pile" "size" "I" ∈ wd := wi_1 _ (List.mem_of_getElem? (i := 16) rfl)
theorem m_1_17 : Cond.fieldLink R_Pile 25 "LazyMachine$Pile" "most" "I" ∈ wd := wi_1 _ (List.mem_of_getElem? (i := 17) rfl)
theorem m_1_18 : Cond.classLink R_LazyMachine 23 R_Term ∈ wd := wi_1 _ (List.mem_of_getElem? (i := 18) rfl)
theorem m_1_19 : Cond.instantiable R_Term 7 ∈ wd := wi_1 _ (List.mem_of_getElem? (i := 19) rfl)
theorem m_1_20 : Cond.methodLink R_LazyMachine 25 y_Term_init ∈ wd := wi_1 _ (List.mem_of_getElem? (i := 20) rfl)
theorem m_1_21 : Cond.instanceMethod y_Term_init ∈ wd := wi_1 _ (List.mem_of_getElem? (i := 21) rfl)
theorem m_1_22 : Cond.code y_Term_init b_Term_init 1 none ∈ wd := wi_1 _ (List.mem_of_getElem? (i := 22) rfl)
theorem m_1_23 : Cond.methodLink R_Term 3 objectInit ∈ wd := wi_1 _ (List.mem_of_getElem? (i := 23) rfl)
theorem m_2_0 : Cond.fieldLink R_Term 9 "LazyMachine$Term" "sorts" "[I" ∈ wd := wi_2 _ (List.mem_of_getElem? (i := 0) rfl)
theorem m_2_1 : Cond.fieldLink R_Term 15 "LazyMachine$Term" "xs" "[I" ∈ wd := wi_2 _ (List.mem_of_getElem? (i := 1) rfl)
theorem m_2_2 : Cond.fieldLink R_Term 18 "LazyMachine$Term" "parts" "[I" ∈ wd := wi_2 _ (List.mem_of_getElem? (i := 2) rfl)
theorem m_2_3 : Cond.fieldLink R_Term 21 "LazyMachine$Term" "partsCome" "[I" ∈ wd := wi_2 _ (List.mem_of_getElem? (i := 3) rfl)
theorem m_2_4 : Cond.fieldLink R_Term 24 "LazyMachine$Term" "binders" "[I" ∈ wd := wi_2 _ (List.mem_of_getElem? (i := 4) rfl)
theorem m_2_5 : Cond.fieldLink R_Term 27 "LazyMachine$Term" "open" "[I" ∈ wd := wi_2 _ (List.mem_of_getElem? (i := 5) rfl)
theorem m_2_6 : Cond.fieldLink R_Term 30 "LazyMachine$Term" "size" "I" ∈ wd := wi_2 _ (List.mem_of_getElem? (i := 6) rfl)
theorem m_2_7 : Cond.fieldLink R_LazyMachine 10 "LazyMachine" "heap" "LLazyMachine$Heap;" ∈ wd := wi_2 _ (List.mem_of_getElem? (i := 7) rfl)
theorem m_2_8 : Cond.fieldLink R_LazyMachine 19 "LazyMachine" "pile" "LLazyMachine$Pile;" ∈ wd := wi_2 _ (List.mem_of_getElem? (i := 8) rfl)
theorem m_2_9 : Cond.fieldLink R_LazyMachine 26 "LazyMachine" "waiting" "LLazyMachine$Term;" ∈ wd := wi_2 _ (List.mem_of_getElem? (i := 9) rfl)
theorem m_2_10 : Cond.fieldLink R_LazyMachine 30 "LazyMachine" "term" "LLazyMachine$Term;" ∈ wd := wi_2 _ (List.mem_of_getElem? (i := 10) rfl)
theorem m_2_11 : Cond.fieldLink R_LazyMachine 33 "LazyMachine" "status" "I" ∈ wd := wi_2 _ (List.mem_of_getElem? (i := 11) rfl)
theorem m_2_12 : Cond.fieldLink R_LazyMachine 93 "LazyMachine" "steps" "I" ∈ wd := wi_2 _ (List.mem_of_getElem? (i := 12) rfl)
theorem m_2_13 : Cond.fieldLink R_LazyMachine 122 "LazyMachine" "forced" "I" ∈ wd := wi_2 _ (List.mem_of_getElem? (i := 13) rfl)
theorem m_2_14 : Cond.fieldLink R_LazyMachine 83 "LazyMachine" "back" "Z" ∈ wd := wi_2 _ (List.mem_of_getElem? (i := 14) rfl)
theorem m_2_15 : Cond.fieldLink R_LazyMachine 132 "LazyMachine" "node" "I" ∈ wd := wi_2 _ (List.mem_of_getElem? (i := 15) rfl)
theorem m_2_16 : Cond.fieldLink R_LazyMachine 37 "LazyMachine" "environment" "I" ∈ wd := wi_2 _ (List.mem_of_getElem? (i := 16) rfl)
theorem m_2_17 : Cond.fieldLink R_LazyMachine 98 "LazyMachine" "valueSort" "I" ∈ wd := wi_2 _ (List.mem_of_getElem? (i := 17) rfl)
theorem m_2_18 : Cond.fieldLink R_LazyMachine 40 "LazyMachine" "valueFirst" "I" ∈ wd := wi_2 _ (List.mem_of_getElem? (i := 18) rfl)
theorem m_2_19 : Cond.fieldLink R_LazyMachine 43 "LazyMachine" "valueSecond" "I" ∈ wd := wi_2 _ (List.mem_of_getElem? (i := 19) rfl)
theorem m_2_20 : Cond.methodLink R_Law 47 y_LazyMachine_load ∈ wd := wi_2 _ (List.mem_of_getElem? (i := 20) rfl)
theorem m_2_21 : Cond.instanceMethod y_LazyMachine_load ∈ wd := wi_2 _ (List.mem_of_getElem? (i := 21) rfl)
theorem m_2_22 : Cond.selects R_LazyMachine y_LazyMachine_load y_LazyMachine_load ∈ wd := wi_2 _ (List.mem_of_getElem? (i := 22) rfl)
theorem m_2_23 : Cond.code y_LazyMachine_load b_LazyMachine_load 3 (some .int) ∈ wd := wi_2 _ (List.mem_of_getElem? (i := 23) rfl)
theorem m_3_0 : Cond.methodLink R_LazyMachine 66 y_Term_settle ∈ wd := wi_3 _ (List.mem_of_getElem? (i := 0) rfl)
theorem m_3_1 : Cond.instanceMethod y_Term_settle ∈ wd := wi_3 _ (List.mem_of_getElem? (i := 1) rfl)
theorem m_3_2 : Cond.selects R_Term y_Term_settle y_Term_settle ∈ wd := wi_3 _ (List.mem_of_getElem? (i := 2) rfl)
theorem m_3_3 : Cond.code y_Term_settle b_Term_settle 3 (some .int) ∈ wd := wi_3 _ (List.mem_of_getElem? (i := 3) rfl)
theorem m_3_4 : Cond.methodLink R_Term 34 y_Term_givePart ∈ wd := wi_3 _ (List.mem_of_getElem? (i := 4) rfl)
theorem m_3_5 : Cond.instanceMethod y_Term_givePart ∈ wd := wi_3 _ (List.mem_of_getElem? (i := 5) rfl)
theorem m_3_6 : Cond.code y_Term_givePart b_Term_givePart 4 (some .boolean) ∈ wd := wi_3 _ (List.mem_of_getElem? (i := 6) rfl)
theorem m_3_7 : Cond.methodLink R_Term 41 y_Term_bindsIn ∈ wd := wi_3 _ (List.mem_of_getElem? (i := 7) rfl)
theorem m_3_8 : Cond.static y_Term_bindsIn ∈ wd := wi_3 _ (List.mem_of_getElem? (i := 8) rfl)
theorem m_3_9 : Cond.code y_Term_bindsIn b_Term_bindsIn 2 (some .boolean) ∈ wd := wi_3 _ (List.mem_of_getElem? (i := 9) rfl)
theorem m_3_10 : Cond.methodLink R_LazyMachine 69 y_Term_clear ∈ wd := wi_3 _ (List.mem_of_getElem? (i := 10) rfl)
theorem m_3_11 : Cond.instanceMethod y_Term_clear ∈ wd := wi_3 _ (List.mem_of_getElem? (i := 11) rfl)
theorem m_3_12 : Cond.selects R_Term y_Term_clear y_Term_clear ∈ wd := wi_3 _ (List.mem_of_getElem? (i := 12) rfl)
theorem m_3_13 : Cond.code y_Term_clear b_Term_clear 1 none ∈ wd := wi_3 _ (List.mem_of_getElem? (i := 13) rfl)
theorem m_3_14 : Cond.methodLink R_LazyMachine 72 y_LazyMachine_begin ∈ wd := wi_3 _ (List.mem_of_getElem? (i := 14) rfl)
theorem m_3_15 : Cond.instanceMethod y_LazyMachine_begin ∈ wd := wi_3 _ (List.mem_of_getElem? (i := 15) rfl)
theorem m_3_16 : Cond.code y_LazyMachine_begin b_LazyMachine_begin 2 none ∈ wd := wi_3 _ (List.mem_of_getElem? (i := 16) rfl)
theorem m_3_17 : Cond.methodLink R_LazyMachine 138 y_Heap_empty ∈ wd := wi_3 _ (List.mem_of_getElem? (i := 17) rfl)
theorem m_3_18 : Cond.instanceMethod y_Heap_empty ∈ wd := wi_3 _ (List.mem_of_getElem? (i := 18) rfl)
theorem m_3_19 : Cond.selects R_Heap y_Heap_empty y_Heap_empty ∈ wd := wi_3 _ (List.mem_of_getElem? (i := 19) rfl)
theorem m_3_20 : Cond.code y_Heap_empty b_Heap_empty 1 none ∈ wd := wi_3 _ (List.mem_of_getElem? (i := 20) rfl)
theorem m_3_21 : Cond.methodLink R_Heap 30 y_Heap_beginMarks ∈ wd := wi_3 _ (List.mem_of_getElem? (i := 21) rfl)
theorem m_3_22 : Cond.instanceMethod y_Heap_beginMarks ∈ wd := wi_3 _ (List.mem_of_getElem? (i := 22) rfl)
theorem m_3_23 : Cond.selects R_Heap y_Heap_beginMarks y_Heap_beginMarks ∈ wd := wi_3 _ (List.mem_of_getElem? (i := 23) rfl)
theorem m_4_0 : Cond.code y_Heap_beginMarks b_Heap_beginMarks 1 none ∈ wd := wi_4 _ (List.mem_of_getElem? (i := 0) rfl)
theorem m_4_1 : Cond.methodLink R_Heap 33 y_Heap_freeUnreached ∈ wd := wi_4 _ (List.mem_of_getElem? (i := 1) rfl)
theorem m_4_2 : Cond.instanceMethod y_Heap_freeUnreached ∈ wd := wi_4 _ (List.mem_of_getElem? (i := 2) rfl)
theorem m_4_3 : Cond.selects R_Heap y_Heap_freeUnreached y_Heap_freeUnreached ∈ wd := wi_4 _ (List.mem_of_getElem? (i := 3) rfl)
theorem m_4_4 : Cond.code y_Heap_freeUnreached b_Heap_freeUnreached 2 none ∈ wd := wi_4 _ (List.mem_of_getElem? (i := 4) rfl)
theorem m_4_5 : Cond.methodLink R_LazyMachine 141 y_Pile_empty ∈ wd := wi_4 _ (List.mem_of_getElem? (i := 5) rfl)
theorem m_4_6 : Cond.instanceMethod y_Pile_empty ∈ wd := wi_4 _ (List.mem_of_getElem? (i := 6) rfl)
theorem m_4_7 : Cond.selects R_Pile y_Pile_empty y_Pile_empty ∈ wd := wi_4 _ (List.mem_of_getElem? (i := 7) rfl)
theorem m_4_8 : Cond.code y_Pile_empty b_Pile_empty 1 none ∈ wd := wi_4 _ (List.mem_of_getElem? (i := 8) rfl)
theorem m_4_9 : Cond.methodLink R_LazyMachine 142 y_LazyMachine_enter ∈ wd := wi_4 _ (List.mem_of_getElem? (i := 9) rfl)
theorem m_4_10 : Cond.instanceMethod y_LazyMachine_enter ∈ wd := wi_4 _ (List.mem_of_getElem? (i := 10) rfl)
theorem m_4_11 : Cond.code y_LazyMachine_enter b_LazyMachine_enter 3 none ∈ wd := wi_4 _ (List.mem_of_getElem? (i := 11) rfl)
theorem m_4_12 : Cond.methodLink R_Law 68 y_LazyMachine_count ∈ wd := wi_4 _ (List.mem_of_getElem? (i := 12) rfl)
theorem m_4_13 : Cond.instanceMethod y_LazyMachine_count ∈ wd := wi_4 _ (List.mem_of_getElem? (i := 13) rfl)
theorem m_4_14 : Cond.selects R_LazyMachine y_LazyMachine_count y_LazyMachine_count ∈ wd := wi_4 _ (List.mem_of_getElem? (i := 14) rfl)
theorem m_4_15 : Cond.code y_LazyMachine_count b_LazyMachine_count 2 (some .int) ∈ wd := wi_4 _ (List.mem_of_getElem? (i := 15) rfl)
theorem m_4_16 : Cond.methodLink R_LazyMachine 62 y_Term_size ∈ wd := wi_4 _ (List.mem_of_getElem? (i := 16) rfl)
theorem m_4_17 : Cond.instanceMethod y_Term_size ∈ wd := wi_4 _ (List.mem_of_getElem? (i := 17) rfl)
theorem m_4_18 : Cond.selects R_Term y_Term_size y_Term_size ∈ wd := wi_4 _ (List.mem_of_getElem? (i := 18) rfl)
theorem m_4_19 : Cond.code y_Term_size b_Term_size 1 (some .int) ∈ wd := wi_4 _ (List.mem_of_getElem? (i := 19) rfl)
theorem m_4_20 : Cond.methodLink R_LazyMachine 125 y_Pile_size ∈ wd := wi_4 _ (List.mem_of_getElem? (i := 20) rfl)
theorem m_4_21 : Cond.instanceMethod y_Pile_size ∈ wd := wi_4 _ (List.mem_of_getElem? (i := 21) rfl)
theorem m_4_22 : Cond.selects R_Pile y_Pile_size y_Pile_size ∈ wd := wi_4 _ (List.mem_of_getElem? (i := 22) rfl)
theorem m_4_23 : Cond.code y_Pile_size b_Pile_size 1 (some .int) ∈ wd := wi_4 _ (List.mem_of_getElem? (i := 23) rfl)
theorem m_5_0 : Cond.methodLink R_LazyMachine 126 y_LazyMachine_markRoots ∈ wd := wi_5 _ (List.mem_of_getElem? (i := 0) rfl)
theorem m_5_1 : Cond.instanceMethod y_LazyMachine_markRoots ∈ wd := wi_5 _ (List.mem_of_getElem? (i := 1) rfl)
theorem m_5_2 : Cond.code y_LazyMachine_markRoots b_LazyMachine_markRoots 1 none ∈ wd := wi_5 _ (List.mem_of_getElem? (i := 2) rfl)
theorem m_5_3 : Cond.methodLink R_LazyMachine 239 y_Heap_beginMarks ∈ wd := wi_5 _ (List.mem_of_getElem? (i := 3) rfl)
theorem m_5_4 : Cond.methodLink R_LazyMachine 242 y_Heap_reachFrom ∈ wd := wi_5 _ (List.mem_of_getElem? (i := 4) rfl)
theorem m_5_5 : Cond.instanceMethod y_Heap_reachFrom ∈ wd := wi_5 _ (List.mem_of_getElem? (i := 5) rfl)
theorem m_5_6 : Cond.selects R_Heap y_Heap_reachFrom y_Heap_reachFrom ∈ wd := wi_5 _ (List.mem_of_getElem? (i := 6) rfl)
theorem m_5_7 : Cond.code y_Heap_reachFrom b_Heap_reachFrom 4 none ∈ wd := wi_5 _ (List.mem_of_getElem? (i := 7) rfl)
theorem m_5_8 : Cond.methodLink R_Heap 54 y_Heap_reach ∈ wd := wi_5 _ (List.mem_of_getElem? (i := 8) rfl)
theorem m_5_9 : Cond.instanceMethod y_Heap_reach ∈ wd := wi_5 _ (List.mem_of_getElem? (i := 9) rfl)
theorem m_5_10 : Cond.selects R_Heap y_Heap_reach y_Heap_reach ∈ wd := wi_5 _ (List.mem_of_getElem? (i := 10) rfl)
theorem m_5_11 : Cond.code y_Heap_reach b_Heap_reach 2 none ∈ wd := wi_5 _ (List.mem_of_getElem? (i := 11) rfl)
theorem m_5_12 : Cond.methodLink R_LazyMachine 245 y_Heap_reach ∈ wd := wi_5 _ (List.mem_of_getElem? (i := 12) rfl)
theorem m_5_13 : Cond.methodLink R_LazyMachine 248 y_Pile_reachAll ∈ wd := wi_5 _ (List.mem_of_getElem? (i := 13) rfl)
theorem m_5_14 : Cond.instanceMethod y_Pile_reachAll ∈ wd := wi_5 _ (List.mem_of_getElem? (i := 14) rfl)
theorem m_5_15 : Cond.selects R_Pile y_Pile_reachAll y_Pile_reachAll ∈ wd := wi_5 _ (List.mem_of_getElem? (i := 15) rfl)
theorem m_5_16 : Cond.code y_Pile_reachAll b_Pile_reachAll 3 none ∈ wd := wi_5 _ (List.mem_of_getElem? (i := 16) rfl)
theorem m_5_17 : Cond.methodLink R_Pile 38 y_Heap_reach ∈ wd := wi_5 _ (List.mem_of_getElem? (i := 17) rfl)
theorem m_5_18 : Cond.methodLink R_LazyMachine 129 y_Heap_spreadMarks ∈ wd := wi_5 _ (List.mem_of_getElem? (i := 18) rfl)
theorem m_5_19 : Cond.instanceMethod y_Heap_spreadMarks ∈ wd := wi_5 _ (List.mem_of_getElem? (i := 19) rfl)
theorem m_5_20 : Cond.selects R_Heap y_Heap_spreadMarks y_Heap_spreadMarks ∈ wd := wi_5 _ (List.mem_of_getElem? (i := 20) rfl)
theorem m_5_21 : Cond.code y_Heap_spreadMarks b_Heap_spreadMarks 3 (some .int) ∈ wd := wi_5 _ (List.mem_of_getElem? (i := 21) rfl)
theorem m_5_22 : Cond.methodLink R_Heap 58 y_Heap_reachFrom ∈ wd := wi_5 _ (List.mem_of_getElem? (i := 22) rfl)
theorem m_5_23 : Cond.methodLink R_LazyMachine 135 y_Pile_most ∈ wd := wi_5 _ (List.mem_of_getElem? (i := 23) rfl)
theorem m_6_0 : Cond.instanceMethod y_Pile_most ∈ wd := wi_6 _ (List.mem_of_getElem? (i := 0) rfl)
theorem m_6_1 : Cond.selects R_Pile y_Pile_most y_Pile_most ∈ wd := wi_6 _ (List.mem_of_getElem? (i := 1) rfl)
theorem m_6_2 : Cond.code y_Pile_most b_Pile_most 1 (some .int) ∈ wd := wi_6 _ (List.mem_of_getElem? (i := 2) rfl)
theorem m_6_3 : Cond.methodLink R_Law 37 y_Law_put ∈ wd := wi_6 _ (List.mem_of_getElem? (i := 3) rfl)
theorem m_6_4 : Cond.static y_Law_put ∈ wd := wi_6 _ (List.mem_of_getElem? (i := 4) rfl)
theorem m_6_5 : Cond.classLink R_Law 13 "java/lang/IllegalArgumentException" ∈ wd := wi_6 _ (List.mem_of_getElem? (i := 5) rfl)
theorem m_6_6 : Cond.methodLink R_Law 7 y_LazyMachine_put ∈ wd := wi_6 _ (List.mem_of_getElem? (i := 6) rfl)
theorem m_6_7 : Cond.instanceMethod y_LazyMachine_put ∈ wd := wi_6 _ (List.mem_of_getElem? (i := 7) rfl)
theorem m_6_8 : Cond.selects R_LazyMachine y_LazyMachine_put y_LazyMachine_put ∈ wd := wi_6 _ (List.mem_of_getElem? (i := 8) rfl)
theorem m_6_9 : Cond.code y_LazyMachine_put b_LazyMachine_put 3 (some .int) ∈ wd := wi_6 _ (List.mem_of_getElem? (i := 9) rfl)
theorem m_6_10 : Cond.classLink R_LazyMachine 46 "java/lang/IllegalArgumentException" ∈ wd := wi_6 _ (List.mem_of_getElem? (i := 10) rfl)
theorem m_6_11 : Cond.arrayClass .byte ∈ wd := wi_6 _ (List.mem_of_getElem? (i := 11) rfl)
theorem m_6_12 : Cond.methodLink R_LazyMachine 53 y_LazyMachine_mayBear ∈ wd := wi_6 _ (List.mem_of_getElem? (i := 12) rfl)
theorem m_6_13 : Cond.static y_LazyMachine_mayBear ∈ wd := wi_6 _ (List.mem_of_getElem? (i := 13) rfl)
theorem m_6_14 : Cond.code y_LazyMachine_mayBear b_LazyMachine_mayBear 2 (some .boolean) ∈ wd := wi_6 _ (List.mem_of_getElem? (i := 14) rfl)
theorem m_6_15 : Cond.methodLink R_LazyMachine 59 y_Term_add ∈ wd := wi_6 _ (List.mem_of_getElem? (i := 15) rfl)
theorem m_6_16 : Cond.instanceMethod y_Term_add ∈ wd := wi_6 _ (List.mem_of_getElem? (i := 16) rfl)
theorem m_6_17 : Cond.selects R_Term y_Term_add y_Term_add ∈ wd := wi_6 _ (List.mem_of_getElem? (i := 17) rfl)
theorem m_6_18 : Cond.code y_Term_add b_Term_add 3 (some .boolean) ∈ wd := wi_6 _ (List.mem_of_getElem? (i := 18) rfl)
theorem m_6_19 : Cond.methodLink R_Law 51 y_Law_restart ∈ wd := wi_6 _ (List.mem_of_getElem? (i := 19) rfl)
theorem m_6_20 : Cond.static y_Law_restart ∈ wd := wi_6 _ (List.mem_of_getElem? (i := 20) rfl)
theorem m_6_21 : Cond.classLink R_Law 18 "java/lang/IllegalStateException" ∈ wd := wi_6 _ (List.mem_of_getElem? (i := 21) rfl)
theorem m_6_22 : Cond.methodLink R_Law 15 y_LazyMachine_restart ∈ wd := wi_6 _ (List.mem_of_getElem? (i := 22) rfl)
theorem m_6_23 : Cond.instanceMethod y_LazyMachine_restart ∈ wd := wi_6 _ (List.mem_of_getElem? (i := 23) rfl)
theorem m_7_0 : Cond.selects R_LazyMachine y_LazyMachine_restart y_LazyMachine_restart ∈ wd := wi_7 _ (List.mem_of_getElem? (i := 0) rfl)
theorem m_7_1 : Cond.code y_LazyMachine_restart b_LazyMachine_restart 1 none ∈ wd := wi_7 _ (List.mem_of_getElem? (i := 1) rfl)
theorem m_7_2 : Cond.classLink R_LazyMachine 76 "java/lang/IllegalStateException" ∈ wd := wi_7 _ (List.mem_of_getElem? (i := 2) rfl)
theorem m_7_3 : Cond.methodLink R_Law 55 y_Law_run ∈ wd := wi_7 _ (List.mem_of_getElem? (i := 3) rfl)
theorem m_7_4 : Cond.static y_Law_run ∈ wd := wi_7 _ (List.mem_of_getElem? (i := 4) rfl)
theorem m_7_5 : Cond.methodLink R_Law 20 y_LazyMachine_run ∈ wd := wi_7 _ (List.mem_of_getElem? (i := 5) rfl)
theorem m_7_6 : Cond.instanceMethod y_LazyMachine_run ∈ wd := wi_7 _ (List.mem_of_getElem? (i := 6) rfl)
theorem m_7_7 : Cond.selects R_LazyMachine y_LazyMachine_run y_LazyMachine_run ∈ wd := wi_7 _ (List.mem_of_getElem? (i := 7) rfl)
theorem m_7_8 : Cond.code y_LazyMachine_run b_LazyMachine_run 3 (some .int) ∈ wd := wi_7 _ (List.mem_of_getElem? (i := 8) rfl)
theorem m_7_9 : Cond.methodLink R_LazyMachine 87 y_LazyMachine_stepBack ∈ wd := wi_7 _ (List.mem_of_getElem? (i := 9) rfl)
theorem m_7_10 : Cond.instanceMethod y_LazyMachine_stepBack ∈ wd := wi_7 _ (List.mem_of_getElem? (i := 10) rfl)
theorem m_7_11 : Cond.code y_LazyMachine_stepBack b_LazyMachine_stepBack 2 (some .int) ∈ wd := wi_7 _ (List.mem_of_getElem? (i := 11) rfl)
theorem m_7_12 : Cond.methodLink R_LazyMachine 190 y_Pile_topFirst ∈ wd := wi_7 _ (List.mem_of_getElem? (i := 12) rfl)
theorem m_7_13 : Cond.instanceMethod y_Pile_topFirst ∈ wd := wi_7 _ (List.mem_of_getElem? (i := 13) rfl)
theorem m_7_14 : Cond.selects R_Pile y_Pile_topFirst y_Pile_topFirst ∈ wd := wi_7 _ (List.mem_of_getElem? (i := 14) rfl)
theorem m_7_15 : Cond.code y_Pile_topFirst b_Pile_topFirst 1 (some .int) ∈ wd := wi_7 _ (List.mem_of_getElem? (i := 15) rfl)
theorem m_7_16 : Cond.methodLink R_LazyMachine 193 y_Pile_topSort ∈ wd := wi_7 _ (List.mem_of_getElem? (i := 16) rfl)
theorem m_7_17 : Cond.instanceMethod y_Pile_topSort ∈ wd := wi_7 _ (List.mem_of_getElem? (i := 17) rfl)
theorem m_7_18 : Cond.selects R_Pile y_Pile_topSort y_Pile_topSort ∈ wd := wi_7 _ (List.mem_of_getElem? (i := 18) rfl)
theorem m_7_19 : Cond.code y_Pile_topSort b_Pile_topSort 1 (some .int) ∈ wd := wi_7 _ (List.mem_of_getElem? (i := 19) rfl)
theorem m_7_20 : Cond.methodLink R_LazyMachine 196 y_Pile_drop ∈ wd := wi_7 _ (List.mem_of_getElem? (i := 20) rfl)
theorem m_7_21 : Cond.instanceMethod y_Pile_drop ∈ wd := wi_7 _ (List.mem_of_getElem? (i := 21) rfl)
theorem m_7_22 : Cond.selects R_Pile y_Pile_drop y_Pile_drop ∈ wd := wi_7 _ (List.mem_of_getElem? (i := 22) rfl)
theorem m_7_23 : Cond.code y_Pile_drop b_Pile_drop 1 none ∈ wd := wi_7 _ (List.mem_of_getElem? (i := 23) rfl)
theorem m_8_0 : Cond.methodLink R_LazyMachine 199 y_Heap_become ∈ wd := wi_8 _ (List.mem_of_getElem? (i := 0) rfl)
theorem m_8_1 : Cond.instanceMethod y_Heap_become ∈ wd := wi_8 _ (List.mem_of_getElem? (i := 1) rfl)
theorem m_8_2 : Cond.selects R_Heap y_Heap_become y_Heap_become ∈ wd := wi_8 _ (List.mem_of_getElem? (i := 2) rfl)
theorem m_8_3 : Cond.code y_Heap_become b_Heap_become 5 none ∈ wd := wi_8 _ (List.mem_of_getElem? (i := 3) rfl)
theorem m_8_4 : Cond.methodLink R_LazyMachine 203 y_LazyMachine_stepArgument ∈ wd := wi_8 _ (List.mem_of_getElem? (i := 4) rfl)
theorem m_8_5 : Cond.instanceMethod y_LazyMachine_stepArgument ∈ wd := wi_8 _ (List.mem_of_getElem? (i := 5) rfl)
theorem m_8_6 : Cond.code y_LazyMachine_stepArgument b_LazyMachine_stepArgument 2 (some .int) ∈ wd := wi_8 _ (List.mem_of_getElem? (i := 6) rfl)
theorem m_8_7 : Cond.methodLink R_LazyMachine 111 y_LazyMachine_hasRoomFor ∈ wd := wi_8 _ (List.mem_of_getElem? (i := 7) rfl)
theorem m_8_8 : Cond.instanceMethod y_LazyMachine_hasRoomFor ∈ wd := wi_8 _ (List.mem_of_getElem? (i := 8) rfl)
theorem m_8_9 : Cond.code y_LazyMachine_hasRoomFor b_LazyMachine_hasRoomFor 2 (some .boolean) ∈ wd := wi_8 _ (List.mem_of_getElem? (i := 9) rfl)
theorem m_8_10 : Cond.methodLink R_LazyMachine 233 y_Heap_free ∈ wd := wi_8 _ (List.mem_of_getElem? (i := 10) rfl)
theorem m_8_11 : Cond.instanceMethod y_Heap_free ∈ wd := wi_8 _ (List.mem_of_getElem? (i := 11) rfl)
theorem m_8_12 : Cond.selects R_Heap y_Heap_free y_Heap_free ∈ wd := wi_8 _ (List.mem_of_getElem? (i := 12) rfl)
theorem m_8_13 : Cond.code y_Heap_free b_Heap_free 1 (some .int) ∈ wd := wi_8 _ (List.mem_of_getElem? (i := 13) rfl)
theorem m_8_14 : Cond.methodLink R_LazyMachine 236 y_Heap_freeUnreached ∈ wd := wi_8 _ (List.mem_of_getElem? (i := 14) rfl)
theorem m_8_15 : Cond.methodLink R_LazyMachine 119 y_LazyMachine_enterFunction ∈ wd := wi_8 _ (List.mem_of_getElem? (i := 15) rfl)
theorem m_8_16 : Cond.instanceMethod y_LazyMachine_enterFunction ∈ wd := wi_8 _ (List.mem_of_getElem? (i := 16) rfl)
theorem m_8_17 : Cond.code y_LazyMachine_enterFunction b_LazyMachine_enterFunction 2 none ∈ wd := wi_8 _ (List.mem_of_getElem? (i := 17) rfl)
theorem m_8_18 : Cond.methodLink R_LazyMachine 181 y_Term_part ∈ wd := wi_8 _ (List.mem_of_getElem? (i := 18) rfl)
theorem m_8_19 : Cond.instanceMethod y_Term_part ∈ wd := wi_8 _ (List.mem_of_getElem? (i := 19) rfl)
theorem m_8_20 : Cond.selects R_Term y_Term_part y_Term_part ∈ wd := wi_8 _ (List.mem_of_getElem? (i := 20) rfl)
theorem m_8_21 : Cond.code y_Term_part b_Term_part 3 (some .int) ∈ wd := wi_8 _ (List.mem_of_getElem? (i := 21) rfl)
theorem m_8_22 : Cond.methodLink R_LazyMachine 115 y_Heap_take ∈ wd := wi_8 _ (List.mem_of_getElem? (i := 22) rfl)
theorem m_8_23 : Cond.instanceMethod y_Heap_take ∈ wd := wi_8 _ (List.mem_of_getElem? (i := 23) rfl)
theorem m_9_0 : Cond.selects R_Heap y_Heap_take y_Heap_take ∈ wd := wi_9 _ (List.mem_of_getElem? (i := 0) rfl)
theorem m_9_1 : Cond.code y_Heap_take b_Heap_take 5 (some .int) ∈ wd := wi_9 _ (List.mem_of_getElem? (i := 1) rfl)
theorem m_9_2 : Cond.methodLink R_Heap 40 y_Heap_become ∈ wd := wi_9 _ (List.mem_of_getElem? (i := 2) rfl)
theorem m_9_3 : Cond.methodLink R_LazyMachine 206 y_Pile_topSecond ∈ wd := wi_9 _ (List.mem_of_getElem? (i := 3) rfl)
theorem m_9_4 : Cond.instanceMethod y_Pile_topSecond ∈ wd := wi_9 _ (List.mem_of_getElem? (i := 4) rfl)
theorem m_9_5 : Cond.selects R_Pile y_Pile_topSecond y_Pile_topSecond ∈ wd := wi_9 _ (List.mem_of_getElem? (i := 5) rfl)
theorem m_9_6 : Cond.code y_Pile_topSecond b_Pile_topSecond 1 (some .int) ∈ wd := wi_9 _ (List.mem_of_getElem? (i := 6) rfl)
theorem m_9_7 : Cond.methodLink R_LazyMachine 209 y_LazyMachine_stepLeft ∈ wd := wi_9 _ (List.mem_of_getElem? (i := 7) rfl)
theorem m_9_8 : Cond.instanceMethod y_LazyMachine_stepLeft ∈ wd := wi_9 _ (List.mem_of_getElem? (i := 8) rfl)
theorem m_9_9 : Cond.code y_LazyMachine_stepLeft b_LazyMachine_stepLeft 3 (some .int) ∈ wd := wi_9 _ (List.mem_of_getElem? (i := 9) rfl)
theorem m_9_10 : Cond.methodLink R_LazyMachine 178 y_Pile_add ∈ wd := wi_9 _ (List.mem_of_getElem? (i := 10) rfl)
theorem m_9_11 : Cond.instanceMethod y_Pile_add ∈ wd := wi_9 _ (List.mem_of_getElem? (i := 11) rfl)
theorem m_9_12 : Cond.selects R_Pile y_Pile_add y_Pile_add ∈ wd := wi_9 _ (List.mem_of_getElem? (i := 12) rfl)
theorem m_9_13 : Cond.code y_Pile_add b_Pile_add 4 none ∈ wd := wi_9 _ (List.mem_of_getElem? (i := 13) rfl)
theorem m_9_14 : Cond.methodLink R_Pile 28 y_Pile_isFull ∈ wd := wi_9 _ (List.mem_of_getElem? (i := 14) rfl)
theorem m_9_15 : Cond.instanceMethod y_Pile_isFull ∈ wd := wi_9 _ (List.mem_of_getElem? (i := 15) rfl)
theorem m_9_16 : Cond.selects R_Pile y_Pile_isFull y_Pile_isFull ∈ wd := wi_9 _ (List.mem_of_getElem? (i := 16) rfl)
theorem m_9_17 : Cond.code y_Pile_isFull b_Pile_isFull 1 (some .boolean) ∈ wd := wi_9 _ (List.mem_of_getElem? (i := 17) rfl)
theorem m_9_18 : Cond.methodLink R_Pile 32 Lib.Math.max.name ∈ wd := wi_9 _ (List.mem_of_getElem? (i := 18) rfl)
theorem m_9_19 : Cond.static Lib.Math.max.name ∈ wd := wi_9 _ (List.mem_of_getElem? (i := 19) rfl)
theorem m_9_20 : Cond.code Lib.Math.max.name Lib.Math.max.code 2 (some .int) ∈ wd := wi_9 _ (List.mem_of_getElem? (i := 20) rfl)
theorem m_9_21 : Cond.methodLink R_LazyMachine 212 y_LazyMachine_stepRight ∈ wd := wi_9 _ (List.mem_of_getElem? (i := 21) rfl)
theorem m_9_22 : Cond.instanceMethod y_LazyMachine_stepRight ∈ wd := wi_9 _ (List.mem_of_getElem? (i := 22) rfl)
theorem m_9_23 : Cond.code y_LazyMachine_stepRight b_LazyMachine_stepRight 3 (some .int) ∈ wd := wi_9 _ (List.mem_of_getElem? (i := 23) rfl)
theorem m_10_0 : Cond.methodLink R_LazyMachine 146 y_Term_sort ∈ wd := wi_10 _ (List.mem_of_getElem? (i := 0) rfl)
theorem m_10_1 : Cond.instanceMethod y_Term_sort ∈ wd := wi_10 _ (List.mem_of_getElem? (i := 1) rfl)
theorem m_10_2 : Cond.selects R_Term y_Term_sort y_Term_sort ∈ wd := wi_10 _ (List.mem_of_getElem? (i := 2) rfl)
theorem m_10_3 : Cond.code y_Term_sort b_Term_sort 2 (some .int) ∈ wd := wi_10 _ (List.mem_of_getElem? (i := 3) rfl)
theorem m_10_4 : Cond.methodLink R_LazyMachine 221 y_LazyMachine_reckon ∈ wd := wi_10 _ (List.mem_of_getElem? (i := 4) rfl)
theorem m_10_5 : Cond.static y_LazyMachine_reckon ∈ wd := wi_10 _ (List.mem_of_getElem? (i := 5) rfl)
theorem m_10_6 : Cond.code y_LazyMachine_reckon b_LazyMachine_reckon 3 (some .int) ∈ wd := wi_10 _ (List.mem_of_getElem? (i := 6) rfl)
theorem m_10_7 : Cond.methodLink R_LazyMachine 156 y_LazyMachine_backWith ∈ wd := wi_10 _ (List.mem_of_getElem? (i := 7) rfl)
theorem m_10_8 : Cond.instanceMethod y_LazyMachine_backWith ∈ wd := wi_10 _ (List.mem_of_getElem? (i := 8) rfl)
theorem m_10_9 : Cond.code y_LazyMachine_backWith b_LazyMachine_backWith 4 (some .int) ∈ wd := wi_10 _ (List.mem_of_getElem? (i := 9) rfl)
theorem m_10_10 : Cond.methodLink R_LazyMachine 215 y_LazyMachine_stepTest ∈ wd := wi_10 _ (List.mem_of_getElem? (i := 10) rfl)
theorem m_10_11 : Cond.instanceMethod y_LazyMachine_stepTest ∈ wd := wi_10 _ (List.mem_of_getElem? (i := 11) rfl)
theorem m_10_12 : Cond.code y_LazyMachine_stepTest b_LazyMachine_stepTest 3 (some .int) ∈ wd := wi_10 _ (List.mem_of_getElem? (i := 12) rfl)
theorem m_10_13 : Cond.methodLink R_LazyMachine 218 y_LazyMachine_stepPart ∈ wd := wi_10 _ (List.mem_of_getElem? (i := 13) rfl)
theorem m_10_14 : Cond.instanceMethod y_LazyMachine_stepPart ∈ wd := wi_10 _ (List.mem_of_getElem? (i := 14) rfl)
theorem m_10_15 : Cond.code y_LazyMachine_stepPart b_LazyMachine_stepPart 3 (some .int) ∈ wd := wi_10 _ (List.mem_of_getElem? (i := 15) rfl)
theorem m_10_16 : Cond.methodLink R_LazyMachine 224 y_Heap_state ∈ wd := wi_10 _ (List.mem_of_getElem? (i := 16) rfl)
theorem m_10_17 : Cond.instanceMethod y_Heap_state ∈ wd := wi_10 _ (List.mem_of_getElem? (i := 17) rfl)
theorem m_10_18 : Cond.selects R_Heap y_Heap_state y_Heap_state ∈ wd := wi_10 _ (List.mem_of_getElem? (i := 18) rfl)
theorem m_10_19 : Cond.code y_Heap_state b_Heap_state 2 (some .int) ∈ wd := wi_10 _ (List.mem_of_getElem? (i := 19) rfl)
theorem m_10_20 : Cond.methodLink R_LazyMachine 105 y_LazyMachine_ask ∈ wd := wi_10 _ (List.mem_of_getElem? (i := 20) rfl)
theorem m_10_21 : Cond.instanceMethod y_LazyMachine_ask ∈ wd := wi_10 _ (List.mem_of_getElem? (i := 21) rfl)
theorem m_10_22 : Cond.code y_LazyMachine_ask b_LazyMachine_ask 5 (some .int) ∈ wd := wi_10 _ (List.mem_of_getElem? (i := 22) rfl)
theorem m_10_23 : Cond.methodLink R_LazyMachine 227 y_Heap_first ∈ wd := wi_10 _ (List.mem_of_getElem? (i := 23) rfl)
theorem m_11_0 : Cond.instanceMethod y_Heap_first ∈ wd := wi_11 _ (List.mem_of_getElem? (i := 0) rfl)
theorem m_11_1 : Cond.selects R_Heap y_Heap_first y_Heap_first ∈ wd := wi_11 _ (List.mem_of_getElem? (i := 1) rfl)
theorem m_11_2 : Cond.code y_Heap_first b_Heap_first 2 (some .int) ∈ wd := wi_11 _ (List.mem_of_getElem? (i := 2) rfl)
theorem m_11_3 : Cond.methodLink R_LazyMachine 230 y_Heap_second ∈ wd := wi_11 _ (List.mem_of_getElem? (i := 3) rfl)
theorem m_11_4 : Cond.instanceMethod y_Heap_second ∈ wd := wi_11 _ (List.mem_of_getElem? (i := 4) rfl)
theorem m_11_5 : Cond.selects R_Heap y_Heap_second y_Heap_second ∈ wd := wi_11 _ (List.mem_of_getElem? (i := 5) rfl)
theorem m_11_6 : Cond.code y_Heap_second b_Heap_second 2 (some .int) ∈ wd := wi_11 _ (List.mem_of_getElem? (i := 6) rfl)
theorem m_11_7 : Cond.methodLink R_LazyMachine 174 y_Pile_isFull ∈ wd := wi_11 _ (List.mem_of_getElem? (i := 7) rfl)
theorem m_11_8 : Cond.methodLink R_LazyMachine 90 y_LazyMachine_stepAt ∈ wd := wi_11 _ (List.mem_of_getElem? (i := 8) rfl)
theorem m_11_9 : Cond.instanceMethod y_LazyMachine_stepAt ∈ wd := wi_11 _ (List.mem_of_getElem? (i := 9) rfl)
theorem m_11_10 : Cond.code y_LazyMachine_stepAt b_LazyMachine_stepAt 1 (some .int) ∈ wd := wi_11 _ (List.mem_of_getElem? (i := 10) rfl)
theorem m_11_11 : Cond.methodLink R_LazyMachine 149 y_Term_x ∈ wd := wi_11 _ (List.mem_of_getElem? (i := 11) rfl)
theorem m_11_12 : Cond.instanceMethod y_Term_x ∈ wd := wi_11 _ (List.mem_of_getElem? (i := 12) rfl)
theorem m_11_13 : Cond.selects R_Term y_Term_x y_Term_x ∈ wd := wi_11 _ (List.mem_of_getElem? (i := 13) rfl)
theorem m_11_14 : Cond.code y_Term_x b_Term_x 2 (some .int) ∈ wd := wi_11 _ (List.mem_of_getElem? (i := 14) rfl)
theorem m_11_15 : Cond.methodLink R_LazyMachine 152 y_Heap_boundTo ∈ wd := wi_11 _ (List.mem_of_getElem? (i := 15) rfl)
theorem m_11_16 : Cond.instanceMethod y_Heap_boundTo ∈ wd := wi_11 _ (List.mem_of_getElem? (i := 16) rfl)
theorem m_11_17 : Cond.selects R_Heap y_Heap_boundTo y_Heap_boundTo ∈ wd := wi_11 _ (List.mem_of_getElem? (i := 17) rfl)
theorem m_11_18 : Cond.code y_Heap_boundTo b_Heap_boundTo 5 (some .int) ∈ wd := wi_11 _ (List.mem_of_getElem? (i := 18) rfl)
theorem m_11_19 : Cond.methodLink R_Heap 44 y_Heap_first ∈ wd := wi_11 _ (List.mem_of_getElem? (i := 19) rfl)
theorem m_11_20 : Cond.methodLink R_LazyMachine 159 y_LazyMachine_stepApply ∈ wd := wi_11 _ (List.mem_of_getElem? (i := 20) rfl)
theorem m_11_21 : Cond.instanceMethod y_LazyMachine_stepApply ∈ wd := wi_11 _ (List.mem_of_getElem? (i := 21) rfl)
theorem m_11_22 : Cond.code y_LazyMachine_stepApply b_LazyMachine_stepApply 2 (some .int) ∈ wd := wi_11 _ (List.mem_of_getElem? (i := 22) rfl)
theorem m_11_23 : Cond.methodLink R_LazyMachine 184 y_LazyMachine_cellsFor ∈ wd := wi_11 _ (List.mem_of_getElem? (i := 23) rfl)
theorem m_12_0 : Cond.instanceMethod y_LazyMachine_cellsFor ∈ wd := wi_12 _ (List.mem_of_getElem? (i := 0) rfl)
theorem m_12_1 : Cond.code y_LazyMachine_cellsFor b_LazyMachine_cellsFor 2 (some .int) ∈ wd := wi_12 _ (List.mem_of_getElem? (i := 1) rfl)
theorem m_12_2 : Cond.methodLink R_LazyMachine 187 y_LazyMachine_thunkFor ∈ wd := wi_12 _ (List.mem_of_getElem? (i := 2) rfl)
theorem m_12_3 : Cond.instanceMethod y_LazyMachine_thunkFor ∈ wd := wi_12 _ (List.mem_of_getElem? (i := 3) rfl)
theorem m_12_4 : Cond.code y_LazyMachine_thunkFor b_LazyMachine_thunkFor 2 (some .int) ∈ wd := wi_12 _ (List.mem_of_getElem? (i := 4) rfl)
theorem m_12_5 : Cond.methodLink R_LazyMachine 162 y_LazyMachine_stepUnder ∈ wd := wi_12 _ (List.mem_of_getElem? (i := 5) rfl)
theorem m_12_6 : Cond.instanceMethod y_LazyMachine_stepUnder ∈ wd := wi_12 _ (List.mem_of_getElem? (i := 6) rfl)
theorem m_12_7 : Cond.code y_LazyMachine_stepUnder b_LazyMachine_stepUnder 4 (some .int) ∈ wd := wi_12 _ (List.mem_of_getElem? (i := 7) rfl)
theorem m_12_8 : Cond.methodLink R_LazyMachine 165 y_LazyMachine_stepFix ∈ wd := wi_12 _ (List.mem_of_getElem? (i := 8) rfl)
theorem m_12_9 : Cond.instanceMethod y_LazyMachine_stepFix ∈ wd := wi_12 _ (List.mem_of_getElem? (i := 9) rfl)
theorem m_12_10 : Cond.code y_LazyMachine_stepFix b_LazyMachine_stepFix 2 (some .int) ∈ wd := wi_12 _ (List.mem_of_getElem? (i := 10) rfl)
theorem m_12_11 : Cond.methodLink R_LazyMachine 168 y_LazyMachine_stepLet ∈ wd := wi_12 _ (List.mem_of_getElem? (i := 11) rfl)
theorem m_12_12 : Cond.instanceMethod y_LazyMachine_stepLet ∈ wd := wi_12 _ (List.mem_of_getElem? (i := 12) rfl)
theorem m_12_13 : Cond.code y_LazyMachine_stepLet b_LazyMachine_stepLet 3 (some .int) ∈ wd := wi_12 _ (List.mem_of_getElem? (i := 13) rfl)
theorem m_12_14 : Cond.methodLink R_LazyMachine 171 y_LazyMachine_stepPair ∈ wd := wi_12 _ (List.mem_of_getElem? (i := 14) rfl)
theorem m_12_15 : Cond.instanceMethod y_LazyMachine_stepPair ∈ wd := wi_12 _ (List.mem_of_getElem? (i := 15) rfl)
theorem m_12_16 : Cond.code y_LazyMachine_stepPair b_LazyMachine_stepPair 4 (some .int) ∈ wd := wi_12 _ (List.mem_of_getElem? (i := 16) rfl)
theorem m_12_17 : Cond.methodLink R_Law 59 y_Law_result ∈ wd := wi_12 _ (List.mem_of_getElem? (i := 17) rfl)
theorem m_12_18 : Cond.static y_Law_result ∈ wd := wi_12 _ (List.mem_of_getElem? (i := 18) rfl)
theorem m_12_19 : Cond.methodLink R_Law 24 y_LazyMachine_result ∈ wd := wi_12 _ (List.mem_of_getElem? (i := 19) rfl)
theorem m_12_20 : Cond.instanceMethod y_LazyMachine_result ∈ wd := wi_12 _ (List.mem_of_getElem? (i := 20) rfl)
theorem m_12_21 : Cond.selects R_LazyMachine y_LazyMachine_result y_LazyMachine_result ∈ wd := wi_12 _ (List.mem_of_getElem? (i := 21) rfl)
theorem m_12_22 : Cond.code y_LazyMachine_result b_LazyMachine_result 3 (some .int) ∈ wd := wi_12 _ (List.mem_of_getElem? (i := 22) rfl)
theorem m_12_23 : Cond.methodLink R_Law 62 y_Law_into ∈ wd := wi_12 _ (List.mem_of_getElem? (i := 23) rfl)
theorem m_13_0 : Cond.static y_Law_into ∈ wd := wi_13 _ (List.mem_of_getElem? (i := 0) rfl)
theorem m_13_1 : Cond.methodLink R_Law 27 y_LazyMachine_into ∈ wd := wi_13 _ (List.mem_of_getElem? (i := 1) rfl)
theorem m_13_2 : Cond.instanceMethod y_LazyMachine_into ∈ wd := wi_13 _ (List.mem_of_getElem? (i := 2) rfl)
theorem m_13_3 : Cond.selects R_LazyMachine y_LazyMachine_into y_LazyMachine_into ∈ wd := wi_13 _ (List.mem_of_getElem? (i := 3) rfl)
theorem m_13_4 : Cond.code y_LazyMachine_into b_LazyMachine_into 2 (some .int) ∈ wd := wi_13 _ (List.mem_of_getElem? (i := 4) rfl)
theorem m_13_5 : Cond.methodLink R_Law 65 y_Law_apply ∈ wd := wi_13 _ (List.mem_of_getElem? (i := 5) rfl)
theorem m_13_6 : Cond.static y_Law_apply ∈ wd := wi_13 _ (List.mem_of_getElem? (i := 6) rfl)
theorem m_13_7 : Cond.methodLink R_Law 30 y_LazyMachine_apply ∈ wd := wi_13 _ (List.mem_of_getElem? (i := 7) rfl)
theorem m_13_8 : Cond.instanceMethod y_LazyMachine_apply ∈ wd := wi_13 _ (List.mem_of_getElem? (i := 8) rfl)
theorem m_13_9 : Cond.selects R_LazyMachine y_LazyMachine_apply y_LazyMachine_apply ∈ wd := wi_13 _ (List.mem_of_getElem? (i := 9) rfl)
theorem m_13_10 : Cond.code y_LazyMachine_apply b_LazyMachine_apply 2 (some .int) ∈ wd := wi_13 _ (List.mem_of_getElem? (i := 10) rfl)
theorem m_13_11 : Cond.classLink R_Law 34 R_Model ∈ wd := wi_13 _ (List.mem_of_getElem? (i := 11) rfl)
theorem m_13_12 : Cond.instantiable R_Model 30 ∈ wd := wi_13 _ (List.mem_of_getElem? (i := 12) rfl)
theorem m_13_13 : Cond.methodLink R_Law 36 y_Model_init ∈ wd := wi_13 _ (List.mem_of_getElem? (i := 13) rfl)
theorem m_13_14 : Cond.instanceMethod y_Model_init ∈ wd := wi_13 _ (List.mem_of_getElem? (i := 14) rfl)
theorem m_13_15 : Cond.code y_Model_init b_Model_init 1 none ∈ wd := wi_13 _ (List.mem_of_getElem? (i := 15) rfl)
theorem m_13_16 : Cond.methodLink R_Model 1 objectInit ∈ wd := wi_13 _ (List.mem_of_getElem? (i := 16) rfl)
theorem m_13_17 : Cond.fieldLink R_Model 56 "LazyMachineModel" "thrown" "I" ∈ wd := wi_13 _ (List.mem_of_getElem? (i := 17) rfl)
theorem m_13_18 : Cond.fieldLink R_Model 7 "LazyMachineModel" "sorts" "[I" ∈ wd := wi_13 _ (List.mem_of_getElem? (i := 18) rfl)
theorem m_13_19 : Cond.fieldLink R_Model 13 "LazyMachineModel" "xs" "[I" ∈ wd := wi_13 _ (List.mem_of_getElem? (i := 19) rfl)
theorem m_13_20 : Cond.fieldLink R_Model 64 "LazyMachineModel" "told" "I" ∈ wd := wi_13 _ (List.mem_of_getElem? (i := 20) rfl)
theorem m_13_21 : Cond.fieldLink R_Model 16 "LazyMachineModel" "sort" "[I" ∈ wd := wi_13 _ (List.mem_of_getElem? (i := 21) rfl)
theorem m_13_22 : Cond.fieldLink R_Model 19 "LazyMachineModel" "number" "[I" ∈ wd := wi_13 _ (List.mem_of_getElem? (i := 22) rfl)
theorem m_13_23 : Cond.fieldLink R_Model 22 "LazyMachineModel" "child" "[I" ∈ wd := wi_13 _ (List.mem_of_getElem? (i := 23) rfl)
theorem m_14_0 : Cond.fieldLink R_Model 67 "LazyMachineModel" "size" "I" ∈ wd := wi_14 _ (List.mem_of_getElem? (i := 0) rfl)
theorem m_14_1 : Cond.fieldLink R_Model 25 "LazyMachineModel" "owner" "[I" ∈ wd := wi_14 _ (List.mem_of_getElem? (i := 1) rfl)
theorem m_14_2 : Cond.fieldLink R_Model 28 "LazyMachineModel" "around" "[I" ∈ wd := wi_14 _ (List.mem_of_getElem? (i := 2) rfl)
theorem m_14_3 : Cond.fieldLink R_Model 31 "LazyMachineModel" "is" "[I" ∈ wd := wi_14 _ (List.mem_of_getElem? (i := 3) rfl)
theorem m_14_4 : Cond.fieldLink R_Model 34 "LazyMachineModel" "one" "[I" ∈ wd := wi_14 _ (List.mem_of_getElem? (i := 4) rfl)
theorem m_14_5 : Cond.fieldLink R_Model 37 "LazyMachineModel" "two" "[I" ∈ wd := wi_14 _ (List.mem_of_getElem? (i := 5) rfl)
theorem m_14_6 : Cond.fieldLink R_Model 40 "LazyMachineModel" "reached" "[Z" ∈ wd := wi_14 _ (List.mem_of_getElem? (i := 6) rfl)
theorem m_14_7 : Cond.fieldLink R_Model 44 "LazyMachineModel" "todo" "[I" ∈ wd := wi_14 _ (List.mem_of_getElem? (i := 7) rfl)
theorem m_14_8 : Cond.fieldLink R_Model 102 "LazyMachineModel" "left" "I" ∈ wd := wi_14 _ (List.mem_of_getElem? (i := 8) rfl)
theorem m_14_9 : Cond.fieldLink R_Model 47 "LazyMachineModel" "what" "[I" ∈ wd := wi_14 _ (List.mem_of_getElem? (i := 9) rfl)
theorem m_14_10 : Cond.fieldLink R_Model 50 "LazyMachineModel" "first" "[I" ∈ wd := wi_14 _ (List.mem_of_getElem? (i := 10) rfl)
theorem m_14_11 : Cond.fieldLink R_Model 53 "LazyMachineModel" "second" "[I" ∈ wd := wi_14 _ (List.mem_of_getElem? (i := 11) rfl)
theorem m_14_12 : Cond.fieldLink R_Model 86 "LazyMachineModel" "frames" "I" ∈ wd := wi_14 _ (List.mem_of_getElem? (i := 12) rfl)
theorem m_14_13 : Cond.fieldLink R_Model 89 "LazyMachineModel" "most" "I" ∈ wd := wi_14 _ (List.mem_of_getElem? (i := 13) rfl)
theorem m_14_14 : Cond.fieldLink R_Model 70 "LazyMachineModel" "status" "I" ∈ wd := wi_14 _ (List.mem_of_getElem? (i := 14) rfl)
theorem m_14_15 : Cond.fieldLink R_Model 80 "LazyMachineModel" "steps" "I" ∈ wd := wi_14 _ (List.mem_of_getElem? (i := 15) rfl)
theorem m_14_16 : Cond.fieldLink R_Model 83 "LazyMachineModel" "forced" "I" ∈ wd := wi_14 _ (List.mem_of_getElem? (i := 16) rfl)
theorem m_14_17 : Cond.fieldLink R_Model 92 "LazyMachineModel" "back" "Z" ∈ wd := wi_14 _ (List.mem_of_getElem? (i := 17) rfl)
theorem m_14_18 : Cond.fieldLink R_Model 96 "LazyMachineModel" "node" "I" ∈ wd := wi_14 _ (List.mem_of_getElem? (i := 18) rfl)
theorem m_14_19 : Cond.fieldLink R_Model 99 "LazyMachineModel" "environment" "I" ∈ wd := wi_14 _ (List.mem_of_getElem? (i := 19) rfl)
theorem m_14_20 : Cond.fieldLink R_Model 109 "LazyMachineModel" "valueSort" "I" ∈ wd := wi_14 _ (List.mem_of_getElem? (i := 20) rfl)
theorem m_14_21 : Cond.fieldLink R_Model 112 "LazyMachineModel" "valueOne" "I" ∈ wd := wi_14 _ (List.mem_of_getElem? (i := 21) rfl)
theorem m_14_22 : Cond.fieldLink R_Model 115 "LazyMachineModel" "valueTwo" "I" ∈ wd := wi_14 _ (List.mem_of_getElem? (i := 22) rfl)
theorem m_14_23 : Cond.arrayClass .boolean ∈ wd := wi_14 _ (List.mem_of_getElem? (i := 23) rfl)
theorem m_15_0 : Cond.methodLink R_Law 43 y_Model_thrown ∈ wd := wi_15 _ (List.mem_of_getElem? (i := 0) rfl)
theorem m_15_1 : Cond.instanceMethod y_Model_thrown ∈ wd := wi_15 _ (List.mem_of_getElem? (i := 1) rfl)
theorem m_15_2 : Cond.selects R_Model y_Model_thrown y_Model_thrown ∈ wd := wi_15 _ (List.mem_of_getElem? (i := 2) rfl)
theorem m_15_3 : Cond.code y_Model_thrown b_Model_thrown 1 (some .int) ∈ wd := wi_15 _ (List.mem_of_getElem? (i := 3) rfl)
theorem m_15_4 : Cond.methodLink R_Law 42 y_Model_put ∈ wd := wi_15 _ (List.mem_of_getElem? (i := 4) rfl)
theorem m_15_5 : Cond.instanceMethod y_Model_put ∈ wd := wi_15 _ (List.mem_of_getElem? (i := 5) rfl)
theorem m_15_6 : Cond.selects R_Model y_Model_put y_Model_put ∈ wd := wi_15 _ (List.mem_of_getElem? (i := 6) rfl)
theorem m_15_7 : Cond.code y_Model_put b_Model_put 4 (some .int) ∈ wd := wi_15 _ (List.mem_of_getElem? (i := 7) rfl)
theorem m_15_8 : Cond.methodLink R_Model 60 y_Model_fails ∈ wd := wi_15 _ (List.mem_of_getElem? (i := 8) rfl)
theorem m_15_9 : Cond.instanceMethod y_Model_fails ∈ wd := wi_15 _ (List.mem_of_getElem? (i := 9) rfl)
theorem m_15_10 : Cond.code y_Model_fails b_Model_fails 3 (some .boolean) ∈ wd := wi_15 _ (List.mem_of_getElem? (i := 10) rfl)
theorem m_15_11 : Cond.methodLink R_Law 50 y_Model_load ∈ wd := wi_15 _ (List.mem_of_getElem? (i := 11) rfl)
theorem m_15_12 : Cond.instanceMethod y_Model_load ∈ wd := wi_15 _ (List.mem_of_getElem? (i := 12) rfl)
theorem m_15_13 : Cond.selects R_Model y_Model_load y_Model_load ∈ wd := wi_15 _ (List.mem_of_getElem? (i := 13) rfl)
theorem m_15_14 : Cond.code y_Model_load b_Model_load 8 (some .int) ∈ wd := wi_15 _ (List.mem_of_getElem? (i := 14) rfl)
theorem m_15_15 : Cond.methodLink R_Model 73 y_Model_many ∈ wd := wi_15 _ (List.mem_of_getElem? (i := 15) rfl)
theorem m_15_16 : Cond.static y_Model_many ∈ wd := wi_15 _ (List.mem_of_getElem? (i := 16) rfl)
theorem m_15_17 : Cond.code y_Model_many b_Model_many 1 (some .int) ∈ wd := wi_15 _ (List.mem_of_getElem? (i := 17) rfl)
theorem m_15_18 : Cond.methodLink R_Model 77 y_Model_begin ∈ wd := wi_15 _ (List.mem_of_getElem? (i := 18) rfl)
theorem m_15_19 : Cond.instanceMethod y_Model_begin ∈ wd := wi_15 _ (List.mem_of_getElem? (i := 19) rfl)
theorem m_15_20 : Cond.code y_Model_begin b_Model_begin 1 none ∈ wd := wi_15 _ (List.mem_of_getElem? (i := 20) rfl)
theorem m_15_21 : Cond.methodLink R_Law 54 y_Model_restart ∈ wd := wi_15 _ (List.mem_of_getElem? (i := 21) rfl)
theorem m_15_22 : Cond.instanceMethod y_Model_restart ∈ wd := wi_15 _ (List.mem_of_getElem? (i := 22) rfl)
theorem m_15_23 : Cond.selects R_Model y_Model_restart y_Model_restart ∈ wd := wi_15 _ (List.mem_of_getElem? (i := 23) rfl)
theorem m_16_0 : Cond.code y_Model_restart b_Model_restart 1 none ∈ wd := wi_16 _ (List.mem_of_getElem? (i := 0) rfl)
theorem m_16_1 : Cond.methodLink R_Law 58 y_Model_run ∈ wd := wi_16 _ (List.mem_of_getElem? (i := 1) rfl)
theorem m_16_2 : Cond.instanceMethod y_Model_run ∈ wd := wi_16 _ (List.mem_of_getElem? (i := 2) rfl)
theorem m_16_3 : Cond.selects R_Model y_Model_run y_Model_run ∈ wd := wi_16 _ (List.mem_of_getElem? (i := 3) rfl)
theorem m_16_4 : Cond.code y_Model_run b_Model_run 4 (some .int) ∈ wd := wi_16 _ (List.mem_of_getElem? (i := 4) rfl)
theorem m_16_5 : Cond.methodLink R_Model 170 y_Model_returns ∈ wd := wi_16 _ (List.mem_of_getElem? (i := 5) rfl)
theorem m_16_6 : Cond.instanceMethod y_Model_returns ∈ wd := wi_16 _ (List.mem_of_getElem? (i := 6) rfl)
theorem m_16_7 : Cond.code y_Model_returns b_Model_returns 6 (some .boolean) ∈ wd := wi_16 _ (List.mem_of_getElem? (i := 7) rfl)
theorem m_16_8 : Cond.methodLink R_Model 129 y_Model_stops ∈ wd := wi_16 _ (List.mem_of_getElem? (i := 8) rfl)
theorem m_16_9 : Cond.instanceMethod y_Model_stops ∈ wd := wi_16 _ (List.mem_of_getElem? (i := 9) rfl)
theorem m_16_10 : Cond.code y_Model_stops b_Model_stops 2 (some .boolean) ∈ wd := wi_16 _ (List.mem_of_getElem? (i := 10) rfl)
theorem m_16_11 : Cond.methodLink R_Model 158 y_Model_isFull ∈ wd := wi_16 _ (List.mem_of_getElem? (i := 11) rfl)
theorem m_16_12 : Cond.instanceMethod y_Model_isFull ∈ wd := wi_16 _ (List.mem_of_getElem? (i := 12) rfl)
theorem m_16_13 : Cond.code y_Model_isFull b_Model_isFull 2 (some .boolean) ∈ wd := wi_16 _ (List.mem_of_getElem? (i := 13) rfl)
theorem m_16_14 : Cond.methodLink R_Model 133 y_Model_mark ∈ wd := wi_16 _ (List.mem_of_getElem? (i := 14) rfl)
theorem m_16_15 : Cond.instanceMethod y_Model_mark ∈ wd := wi_16 _ (List.mem_of_getElem? (i := 15) rfl)
theorem m_16_16 : Cond.code y_Model_mark b_Model_mark 3 (some .int) ∈ wd := wi_16 _ (List.mem_of_getElem? (i := 16) rfl)
theorem m_16_17 : Cond.methodLink R_Model 118 y_Model_meetValue ∈ wd := wi_16 _ (List.mem_of_getElem? (i := 17) rfl)
theorem m_16_18 : Cond.instanceMethod y_Model_meetValue ∈ wd := wi_16 _ (List.mem_of_getElem? (i := 18) rfl)
theorem m_16_19 : Cond.code y_Model_meetValue b_Model_meetValue 4 none ∈ wd := wi_16 _ (List.mem_of_getElem? (i := 19) rfl)
theorem m_16_20 : Cond.methodLink R_Model 105 y_Model_meet ∈ wd := wi_16 _ (List.mem_of_getElem? (i := 20) rfl)
theorem m_16_21 : Cond.instanceMethod y_Model_meet ∈ wd := wi_16 _ (List.mem_of_getElem? (i := 21) rfl)
theorem m_16_22 : Cond.code y_Model_meet b_Model_meet 2 none ∈ wd := wi_16 _ (List.mem_of_getElem? (i := 22) rfl)
theorem m_16_23 : Cond.methodLink R_Model 125 y_Model_cell ∈ wd := wi_16 _ (List.mem_of_getElem? (i := 23) rfl)
theorem m_17_0 : Cond.instanceMethod y_Model_cell ∈ wd := wi_17 _ (List.mem_of_getElem? (i := 0) rfl)
theorem m_17_1 : Cond.code y_Model_cell b_Model_cell 5 (some .int) ∈ wd := wi_17 _ (List.mem_of_getElem? (i := 1) rfl)
theorem m_17_2 : Cond.methodLink R_Model 147 y_Model_go ∈ wd := wi_17 _ (List.mem_of_getElem? (i := 2) rfl)
theorem m_17_3 : Cond.instanceMethod y_Model_go ∈ wd := wi_17 _ (List.mem_of_getElem? (i := 3) rfl)
theorem m_17_4 : Cond.code y_Model_go b_Model_go 3 none ∈ wd := wi_17 _ (List.mem_of_getElem? (i := 4) rfl)
theorem m_17_5 : Cond.methodLink R_Model 144 y_Model_push ∈ wd := wi_17 _ (List.mem_of_getElem? (i := 5) rfl)
theorem m_17_6 : Cond.instanceMethod y_Model_push ∈ wd := wi_17 _ (List.mem_of_getElem? (i := 6) rfl)
theorem m_17_7 : Cond.code y_Model_push b_Model_push 4 none ∈ wd := wi_17 _ (List.mem_of_getElem? (i := 7) rfl)
theorem m_17_8 : Cond.methodLink R_Model 164 y_Model_reckoned ∈ wd := wi_17 _ (List.mem_of_getElem? (i := 8) rfl)
theorem m_17_9 : Cond.static y_Model_reckoned ∈ wd := wi_17 _ (List.mem_of_getElem? (i := 9) rfl)
theorem m_17_10 : Cond.code y_Model_reckoned b_Model_reckoned 3 (some .int) ∈ wd := wi_17 _ (List.mem_of_getElem? (i := 10) rfl)
theorem m_17_11 : Cond.methodLink R_Model 137 y_Model_give ∈ wd := wi_17 _ (List.mem_of_getElem? (i := 11) rfl)
theorem m_17_12 : Cond.instanceMethod y_Model_give ∈ wd := wi_17 _ (List.mem_of_getElem? (i := 12) rfl)
theorem m_17_13 : Cond.code y_Model_give b_Model_give 4 none ∈ wd := wi_17 _ (List.mem_of_getElem? (i := 13) rfl)
theorem m_17_14 : Cond.methodLink R_Model 167 y_Model_part ∈ wd := wi_17 _ (List.mem_of_getElem? (i := 14) rfl)
theorem m_17_15 : Cond.instanceMethod y_Model_part ∈ wd := wi_17 _ (List.mem_of_getElem? (i := 15) rfl)
theorem m_17_16 : Cond.code y_Model_part b_Model_part 3 (some .boolean) ∈ wd := wi_17 _ (List.mem_of_getElem? (i := 16) rfl)
theorem m_17_17 : Cond.methodLink R_Model 151 y_Model_asks ∈ wd := wi_17 _ (List.mem_of_getElem? (i := 17) rfl)
theorem m_17_18 : Cond.instanceMethod y_Model_asks ∈ wd := wi_17 _ (List.mem_of_getElem? (i := 18) rfl)
theorem m_17_19 : Cond.code y_Model_asks b_Model_asks 5 (some .boolean) ∈ wd := wi_17 _ (List.mem_of_getElem? (i := 19) rfl)
theorem m_17_20 : Cond.methodLink R_Model 140 y_Model_isHigh ∈ wd := wi_17 _ (List.mem_of_getElem? (i := 20) rfl)
theorem m_17_21 : Cond.instanceMethod y_Model_isHigh ∈ wd := wi_17 _ (List.mem_of_getElem? (i := 21) rfl)
theorem m_17_22 : Cond.code y_Model_isHigh b_Model_isHigh 1 (some .boolean) ∈ wd := wi_17 _ (List.mem_of_getElem? (i := 22) rfl)
theorem m_17_23 : Cond.methodLink R_Model 173 y_Model_at ∈ wd := wi_17 _ (List.mem_of_getElem? (i := 23) rfl)
theorem m_18_0 : Cond.instanceMethod y_Model_at ∈ wd := wi_18 _ (List.mem_of_getElem? (i := 0) rfl)
theorem m_18_1 : Cond.code y_Model_at b_Model_at 9 (some .boolean) ∈ wd := wi_18 _ (List.mem_of_getElem? (i := 1) rfl)
theorem m_18_2 : Cond.methodLink R_Model 122 y_Model_bound ∈ wd := wi_18 _ (List.mem_of_getElem? (i := 2) rfl)
theorem m_18_3 : Cond.instanceMethod y_Model_bound ∈ wd := wi_18 _ (List.mem_of_getElem? (i := 3) rfl)
theorem m_18_4 : Cond.code y_Model_bound b_Model_bound 4 (some .int) ∈ wd := wi_18 _ (List.mem_of_getElem? (i := 4) rfl)
theorem m_18_5 : Cond.methodLink R_Model 155 y_Model_costs ∈ wd := wi_18 _ (List.mem_of_getElem? (i := 5) rfl)
theorem m_18_6 : Cond.instanceMethod y_Model_costs ∈ wd := wi_18 _ (List.mem_of_getElem? (i := 6) rfl)
theorem m_18_7 : Cond.code y_Model_costs b_Model_costs 2 (some .int) ∈ wd := wi_18 _ (List.mem_of_getElem? (i := 7) rfl)
theorem m_18_8 : Cond.methodLink R_Model 161 y_Model_thunk ∈ wd := wi_18 _ (List.mem_of_getElem? (i := 8) rfl)
theorem m_18_9 : Cond.instanceMethod y_Model_thunk ∈ wd := wi_18 _ (List.mem_of_getElem? (i := 9) rfl)
theorem m_18_10 : Cond.code y_Model_thunk b_Model_thunk 2 (some .int) ∈ wd := wi_18 _ (List.mem_of_getElem? (i := 10) rfl)
theorem m_18_11 : Cond.methodLink R_Law 61 y_Model_result ∈ wd := wi_18 _ (List.mem_of_getElem? (i := 11) rfl)
theorem m_18_12 : Cond.instanceMethod y_Model_result ∈ wd := wi_18 _ (List.mem_of_getElem? (i := 12) rfl)
theorem m_18_13 : Cond.selects R_Model y_Model_result y_Model_result ∈ wd := wi_18 _ (List.mem_of_getElem? (i := 13) rfl)
theorem m_18_14 : Cond.code y_Model_result b_Model_result 2 (some .int) ∈ wd := wi_18 _ (List.mem_of_getElem? (i := 14) rfl)
theorem m_18_15 : Cond.methodLink R_Law 64 y_Model_into ∈ wd := wi_18 _ (List.mem_of_getElem? (i := 15) rfl)
theorem m_18_16 : Cond.instanceMethod y_Model_into ∈ wd := wi_18 _ (List.mem_of_getElem? (i := 16) rfl)
theorem m_18_17 : Cond.selects R_Model y_Model_into y_Model_into ∈ wd := wi_18 _ (List.mem_of_getElem? (i := 17) rfl)
theorem m_18_18 : Cond.code y_Model_into b_Model_into 3 (some .int) ∈ wd := wi_18 _ (List.mem_of_getElem? (i := 18) rfl)
theorem m_18_19 : Cond.methodLink R_Law 67 y_Model_apply ∈ wd := wi_18 _ (List.mem_of_getElem? (i := 19) rfl)
theorem m_18_20 : Cond.instanceMethod y_Model_apply ∈ wd := wi_18 _ (List.mem_of_getElem? (i := 20) rfl)
theorem m_18_21 : Cond.selects R_Model y_Model_apply y_Model_apply ∈ wd := wi_18 _ (List.mem_of_getElem? (i := 21) rfl)
theorem m_18_22 : Cond.code y_Model_apply b_Model_apply 4 (some .int) ∈ wd := wi_18 _ (List.mem_of_getElem? (i := 22) rfl)
theorem m_18_23 : Cond.methodLink R_Law 71 y_Model_count ∈ wd := wi_18 _ (List.mem_of_getElem? (i := 23) rfl)
theorem m_19_0 : Cond.instanceMethod y_Model_count ∈ wd := wi_19 _ (List.mem_of_getElem? (i := 0) rfl)
theorem m_19_1 : Cond.selects R_Model y_Model_count y_Model_count ∈ wd := wi_19 _ (List.mem_of_getElem? (i := 1) rfl)
theorem m_19_2 : Cond.code y_Model_count b_Model_count 3 (some .int) ∈ wd := wi_19 _ (List.mem_of_getElem? (i := 2) rfl)
theorem m_19_3 : Cond.arrayClass .long ∈ wd := wi_19 _ (List.mem_of_getElem? (i := 3) rfl)
theorem m_19_4 : Cond.selects R_Term y_Term_givePart y_Term_givePart ∈ wd := wi_19 _ (List.mem_of_getElem? (i := 4) rfl)
theorem m_19_5 : Cond.selects R_LazyMachine y_LazyMachine_begin y_LazyMachine_begin ∈ wd := wi_19 _ (List.mem_of_getElem? (i := 5) rfl)
theorem m_19_6 : Cond.selects R_LazyMachine y_LazyMachine_enter y_LazyMachine_enter ∈ wd := wi_19 _ (List.mem_of_getElem? (i := 6) rfl)
theorem m_19_7 : Cond.selects R_LazyMachine y_LazyMachine_markRoots y_LazyMachine_markRoots ∈ wd := wi_19 _ (List.mem_of_getElem? (i := 7) rfl)
theorem m_19_8 : Cond.selects R_LazyMachine y_LazyMachine_stepBack y_LazyMachine_stepBack ∈ wd := wi_19 _ (List.mem_of_getElem? (i := 8) rfl)
theorem m_19_9 : Cond.selects R_LazyMachine y_LazyMachine_stepArgument y_LazyMachine_stepArgument ∈ wd := wi_19 _ (List.mem_of_getElem? (i := 9) rfl)
theorem m_19_10 : Cond.selects R_LazyMachine y_LazyMachine_hasRoomFor y_LazyMachine_hasRoomFor ∈ wd := wi_19 _ (List.mem_of_getElem? (i := 10) rfl)
theorem m_19_11 : Cond.selects R_LazyMachine y_LazyMachine_enterFunction y_LazyMachine_enterFunction ∈ wd := wi_19 _ (List.mem_of_getElem? (i := 11) rfl)
theorem m_19_12 : Cond.selects R_LazyMachine y_LazyMachine_stepLeft y_LazyMachine_stepLeft ∈ wd := wi_19 _ (List.mem_of_getElem? (i := 12) rfl)
theorem m_19_13 : Cond.selects R_LazyMachine y_LazyMachine_stepRight y_LazyMachine_stepRight ∈ wd := wi_19 _ (List.mem_of_getElem? (i := 13) rfl)
theorem m_19_14 : Cond.selects R_LazyMachine y_LazyMachine_backWith y_LazyMachine_backWith ∈ wd := wi_19 _ (List.mem_of_getElem? (i := 14) rfl)
theorem m_19_15 : Cond.selects R_LazyMachine y_LazyMachine_stepTest y_LazyMachine_stepTest ∈ wd := wi_19 _ (List.mem_of_getElem? (i := 15) rfl)
theorem m_19_16 : Cond.selects R_LazyMachine y_LazyMachine_stepPart y_LazyMachine_stepPart ∈ wd := wi_19 _ (List.mem_of_getElem? (i := 16) rfl)
theorem m_19_17 : Cond.selects R_LazyMachine y_LazyMachine_ask y_LazyMachine_ask ∈ wd := wi_19 _ (List.mem_of_getElem? (i := 17) rfl)
theorem m_19_18 : Cond.selects R_LazyMachine y_LazyMachine_stepAt y_LazyMachine_stepAt ∈ wd := wi_19 _ (List.mem_of_getElem? (i := 18) rfl)
theorem m_19_19 : Cond.selects R_LazyMachine y_LazyMachine_stepApply y_LazyMachine_stepApply ∈ wd := wi_19 _ (List.mem_of_getElem? (i := 19) rfl)
theorem m_19_20 : Cond.selects R_LazyMachine y_LazyMachine_cellsFor y_LazyMachine_cellsFor ∈ wd := wi_19 _ (List.mem_of_getElem? (i := 20) rfl)
theorem m_19_21 : Cond.selects R_LazyMachine y_LazyMachine_thunkFor y_LazyMachine_thunkFor ∈ wd := wi_19 _ (List.mem_of_getElem? (i := 21) rfl)
theorem m_19_22 : Cond.selects R_LazyMachine y_LazyMachine_stepUnder y_LazyMachine_stepUnder ∈ wd := wi_19 _ (List.mem_of_getElem? (i := 22) rfl)
theorem m_19_23 : Cond.selects R_LazyMachine y_LazyMachine_stepFix y_LazyMachine_stepFix ∈ wd := wi_19 _ (List.mem_of_getElem? (i := 23) rfl)
theorem m_20_0 : Cond.selects R_LazyMachine y_LazyMachine_stepLet y_LazyMachine_stepLet ∈ wd := wi_20 _ (List.mem_of_getElem? (i := 0) rfl)
theorem m_20_1 : Cond.selects R_LazyMachine y_LazyMachine_stepPair y_LazyMachine_stepPair ∈ wd := wi_20 _ (List.mem_of_getElem? (i := 1) rfl)
theorem m_20_2 : Cond.selects R_Model y_Model_fails y_Model_fails ∈ wd := wi_20 _ (List.mem_of_getElem? (i := 2) rfl)
theorem m_20_3 : Cond.selects R_Model y_Model_begin y_Model_begin ∈ wd := wi_20 _ (List.mem_of_getElem? (i := 3) rfl)
theorem m_20_4 : Cond.selects R_Model y_Model_returns y_Model_returns ∈ wd := wi_20 _ (List.mem_of_getElem? (i := 4) rfl)
theorem m_20_5 : Cond.selects R_Model y_Model_stops y_Model_stops ∈ wd := wi_20 _ (List.mem_of_getElem? (i := 5) rfl)
theorem m_20_6 : Cond.selects R_Model y_Model_isFull y_Model_isFull ∈ wd := wi_20 _ (List.mem_of_getElem? (i := 6) rfl)
theorem m_20_7 : Cond.selects R_Model y_Model_mark y_Model_mark ∈ wd := wi_20 _ (List.mem_of_getElem? (i := 7) rfl)
theorem m_20_8 : Cond.selects R_Model y_Model_meetValue y_Model_meetValue ∈ wd := wi_20 _ (List.mem_of_getElem? (i := 8) rfl)
theorem m_20_9 : Cond.selects R_Model y_Model_meet y_Model_meet ∈ wd := wi_20 _ (List.mem_of_getElem? (i := 9) rfl)
theorem m_20_10 : Cond.selects R_Model y_Model_cell y_Model_cell ∈ wd := wi_20 _ (List.mem_of_getElem? (i := 10) rfl)
theorem m_20_11 : Cond.selects R_Model y_Model_go y_Model_go ∈ wd := wi_20 _ (List.mem_of_getElem? (i := 11) rfl)
theorem m_20_12 : Cond.selects R_Model y_Model_push y_Model_push ∈ wd := wi_20 _ (List.mem_of_getElem? (i := 12) rfl)
theorem m_20_13 : Cond.selects R_Model y_Model_give y_Model_give ∈ wd := wi_20 _ (List.mem_of_getElem? (i := 13) rfl)
theorem m_20_14 : Cond.selects R_Model y_Model_part y_Model_part ∈ wd := wi_20 _ (List.mem_of_getElem? (i := 14) rfl)
theorem m_20_15 : Cond.selects R_Model y_Model_asks y_Model_asks ∈ wd := wi_20 _ (List.mem_of_getElem? (i := 15) rfl)
theorem m_20_16 : Cond.selects R_Model y_Model_isHigh y_Model_isHigh ∈ wd := wi_20 _ (List.mem_of_getElem? (i := 16) rfl)
theorem m_20_17 : Cond.selects R_Model y_Model_at y_Model_at ∈ wd := wi_20 _ (List.mem_of_getElem? (i := 17) rfl)
theorem m_20_18 : Cond.selects R_Model y_Model_bound y_Model_bound ∈ wd := wi_20 _ (List.mem_of_getElem? (i := 18) rfl)
theorem m_20_19 : Cond.selects R_Model y_Model_costs y_Model_costs ∈ wd := wi_20 _ (List.mem_of_getElem? (i := 19) rfl)
theorem m_20_20 : Cond.selects R_Model y_Model_thunk y_Model_thunk ∈ wd := wi_20 _ (List.mem_of_getElem? (i := 20) rfl)
theorem wd_in {c0 : Cond} : ∀ w ∈ wd, w ∈ c0 :: wd := fun _ h => List.mem_cons_of_mem _ h
theorem wd_ok {w : Cond} (h : w ∈ wd) : (w.onTables && w.keeps) = true ∨ ∃ ty, w = .arrayClass ty := good_of_word (List.all_eq_true.mp wd_good w h)
theorem lm_gV {c0 cw : Cond} {own C : String} {idx : Nat} {y : MethodName} (h1 : Cond.methodLink own idx y ∈ wd) (h2 : Cond.instanceMethod y ∈ wd) (h3 : Cond.selects C y y ∈ wd) (h4 : Cond.initialized C ∈ wd) (h5 : cw ∈ wd) : GoodIn (c0 :: wd) (wsV own idx C y (cw :: wd)) := by
  intro w hw
  have h : w ∈ wd := by
    rcases List.mem_append.mp hw with h | h
    · simp only [List.mem_cons, List.not_mem_nil, or_false] at h
      rcases h with rfl | rfl | rfl | rfl
      · exact h1
      · exact h2
      · exact h3
      · exact h4
    · rcases List.mem_cons.mp h with rfl | h
      · exact h5
      · exact h
  exact ⟨wd_in w h, wd_ok h⟩
theorem lm_gS {c0 cw : Cond} {own : String} {idx : Nat} {y : MethodName} (h1 : Cond.methodLink own idx y ∈ wd) (h2 : Cond.static y ∈ wd) (h4 : Cond.initialized own ∈ wd) (h5 : cw ∈ wd) : GoodIn (c0 :: wd) (wsS own idx y (cw :: wd)) := by
  intro w hw
  have h : w ∈ wd := by
    rcases List.mem_append.mp hw with h | h
    · simp only [List.mem_cons, List.not_mem_nil, or_false] at h
      rcases h with rfl | rfl | rfl
      · exact h1
      · exact h2
      · exact h4
    · rcases List.mem_cons.mp h with rfl | h
      · exact h5
      · exact h
  exact ⟨wd_in w h, wd_ok h⟩
theorem lm_gI {c0 cw : Cond} (h5 : cw ∈ wd) : GoodIn (c0 :: wd) (cw :: wd) := by
  intro w hw
  have h : w ∈ wd := by
    rcases List.mem_cons.mp hw with rfl | h
    · exact h5
    · exact h
  exact ⟨wd_in w h, wd_ok h⟩
abbrev c0_LazyMachine_init : Cond := Cond.code y_LazyMachine_init b_LazyMachine_init 1 none
abbrev w_LazyMachine_init : List Cond := c0_LazyMachine_init :: wd
abbrev c0_Heap_init : Cond := Cond.code y_Heap_init b_Heap_init 1 none
abbrev w_Heap_init : List Cond := c0_Heap_init :: wd
abbrev c0_Pile_init : Cond := Cond.code y_Pile_init b_Pile_init 1 none
abbrev w_Pile_init : List Cond := c0_Pile_init :: wd
abbrev c0_Term_init : Cond := Cond.code y_Term_init b_Term_init 1 none
abbrev w_Term_init : List Cond := c0_Term_init :: wd
abbrev c0_LazyMachine_load : Cond := Cond.code y_LazyMachine_load b_LazyMachine_load 3 (some .int)
abbrev w_LazyMachine_load : List Cond := c0_LazyMachine_load :: wd
abbrev c0_Term_settle : Cond := Cond.code y_Term_settle b_Term_settle 3 (some .int)
abbrev w_Term_settle : List Cond := c0_Term_settle :: wd
abbrev c0_Term_givePart : Cond := Cond.code y_Term_givePart b_Term_givePart 4 (some .boolean)
abbrev w_Term_givePart : List Cond := c0_Term_givePart :: wd
abbrev c0_Term_bindsIn : Cond := Cond.code y_Term_bindsIn b_Term_bindsIn 2 (some .boolean)
abbrev w_Term_bindsIn : List Cond := c0_Term_bindsIn :: wd
abbrev c0_Term_clear : Cond := Cond.code y_Term_clear b_Term_clear 1 none
abbrev w_Term_clear : List Cond := c0_Term_clear :: wd
abbrev c0_LazyMachine_begin : Cond := Cond.code y_LazyMachine_begin b_LazyMachine_begin 2 none
abbrev w_LazyMachine_begin : List Cond := c0_LazyMachine_begin :: wd
abbrev c0_Heap_empty : Cond := Cond.code y_Heap_empty b_Heap_empty 1 none
abbrev w_Heap_empty : List Cond := c0_Heap_empty :: wd
abbrev c0_Heap_beginMarks : Cond := Cond.code y_Heap_beginMarks b_Heap_beginMarks 1 none
abbrev w_Heap_beginMarks : List Cond := c0_Heap_beginMarks :: wd
abbrev c0_Heap_freeUnreached : Cond := Cond.code y_Heap_freeUnreached b_Heap_freeUnreached 2 none
abbrev w_Heap_freeUnreached : List Cond := c0_Heap_freeUnreached :: wd
abbrev c0_Pile_empty : Cond := Cond.code y_Pile_empty b_Pile_empty 1 none
abbrev w_Pile_empty : List Cond := c0_Pile_empty :: wd
abbrev c0_LazyMachine_enter : Cond := Cond.code y_LazyMachine_enter b_LazyMachine_enter 3 none
abbrev w_LazyMachine_enter : List Cond := c0_LazyMachine_enter :: wd
abbrev c0_LazyMachine_count : Cond := Cond.code y_LazyMachine_count b_LazyMachine_count 2 (some .int)
abbrev w_LazyMachine_count : List Cond := c0_LazyMachine_count :: wd
abbrev c0_Term_size : Cond := Cond.code y_Term_size b_Term_size 1 (some .int)
abbrev w_Term_size : List Cond := c0_Term_size :: wd
abbrev c0_Pile_size : Cond := Cond.code y_Pile_size b_Pile_size 1 (some .int)
abbrev w_Pile_size : List Cond := c0_Pile_size :: wd
abbrev c0_LazyMachine_markRoots : Cond := Cond.code y_LazyMachine_markRoots b_LazyMachine_markRoots 1 none
abbrev w_LazyMachine_markRoots : List Cond := c0_LazyMachine_markRoots :: wd
abbrev c0_Heap_reachFrom : Cond := Cond.code y_Heap_reachFrom b_Heap_reachFrom 4 none
abbrev w_Heap_reachFrom : List Cond := c0_Heap_reachFrom :: wd
abbrev c0_Heap_reach : Cond := Cond.code y_Heap_reach b_Heap_reach 2 none
abbrev w_Heap_reach : List Cond := c0_Heap_reach :: wd
abbrev c0_Pile_reachAll : Cond := Cond.code y_Pile_reachAll b_Pile_reachAll 3 none
abbrev w_Pile_reachAll : List Cond := c0_Pile_reachAll :: wd
abbrev c0_Heap_spreadMarks : Cond := Cond.code y_Heap_spreadMarks b_Heap_spreadMarks 3 (some .int)
abbrev w_Heap_spreadMarks : List Cond := c0_Heap_spreadMarks :: wd
abbrev c0_Pile_most : Cond := Cond.code y_Pile_most b_Pile_most 1 (some .int)
abbrev w_Pile_most : List Cond := c0_Pile_most :: wd
abbrev c0_LazyMachine_put : Cond := Cond.code y_LazyMachine_put b_LazyMachine_put 3 (some .int)
abbrev w_LazyMachine_put : List Cond := c0_LazyMachine_put :: wd
abbrev c0_LazyMachine_mayBear : Cond := Cond.code y_LazyMachine_mayBear b_LazyMachine_mayBear 2 (some .boolean)
abbrev w_LazyMachine_mayBear : List Cond := c0_LazyMachine_mayBear :: wd
abbrev c0_Term_add : Cond := Cond.code y_Term_add b_Term_add 3 (some .boolean)
abbrev w_Term_add : List Cond := c0_Term_add :: wd
abbrev c0_LazyMachine_restart : Cond := Cond.code y_LazyMachine_restart b_LazyMachine_restart 1 none
abbrev w_LazyMachine_restart : List Cond := c0_LazyMachine_restart :: wd
abbrev c0_LazyMachine_run : Cond := Cond.code y_LazyMachine_run b_LazyMachine_run 3 (some .int)
abbrev w_LazyMachine_run : List Cond := c0_LazyMachine_run :: wd
abbrev c0_LazyMachine_stepBack : Cond := Cond.code y_LazyMachine_stepBack b_LazyMachine_stepBack 2 (some .int)
abbrev w_LazyMachine_stepBack : List Cond := c0_LazyMachine_stepBack :: wd
abbrev c0_Pile_topFirst : Cond := Cond.code y_Pile_topFirst b_Pile_topFirst 1 (some .int)
abbrev w_Pile_topFirst : List Cond := c0_Pile_topFirst :: wd
abbrev c0_Pile_topSort : Cond := Cond.code y_Pile_topSort b_Pile_topSort 1 (some .int)
abbrev w_Pile_topSort : List Cond := c0_Pile_topSort :: wd
abbrev c0_Pile_drop : Cond := Cond.code y_Pile_drop b_Pile_drop 1 none
abbrev w_Pile_drop : List Cond := c0_Pile_drop :: wd
abbrev c0_Heap_become : Cond := Cond.code y_Heap_become b_Heap_become 5 none
abbrev w_Heap_become : List Cond := c0_Heap_become :: wd
abbrev c0_LazyMachine_stepArgument : Cond := Cond.code y_LazyMachine_stepArgument b_LazyMachine_stepArgument 2 (some .int)
abbrev w_LazyMachine_stepArgument : List Cond := c0_LazyMachine_stepArgument :: wd
abbrev c0_LazyMachine_hasRoomFor : Cond := Cond.code y_LazyMachine_hasRoomFor b_LazyMachine_hasRoomFor 2 (some .boolean)
abbrev w_LazyMachine_hasRoomFor : List Cond := c0_LazyMachine_hasRoomFor :: wd
abbrev c0_Heap_free : Cond := Cond.code y_Heap_free b_Heap_free 1 (some .int)
abbrev w_Heap_free : List Cond := c0_Heap_free :: wd
abbrev c0_LazyMachine_enterFunction : Cond := Cond.code y_LazyMachine_enterFunction b_LazyMachine_enterFunction 2 none
abbrev w_LazyMachine_enterFunction : List Cond := c0_LazyMachine_enterFunction :: wd
abbrev c0_Term_part : Cond := Cond.code y_Term_part b_Term_part 3 (some .int)
abbrev w_Term_part : List Cond := c0_Term_part :: wd
abbrev c0_Heap_take : Cond := Cond.code y_Heap_take b_Heap_take 5 (some .int)
abbrev w_Heap_take : List Cond := c0_Heap_take :: wd
abbrev c0_Pile_topSecond : Cond := Cond.code y_Pile_topSecond b_Pile_topSecond 1 (some .int)
abbrev w_Pile_topSecond : List Cond := c0_Pile_topSecond :: wd
abbrev c0_LazyMachine_stepLeft : Cond := Cond.code y_LazyMachine_stepLeft b_LazyMachine_stepLeft 3 (some .int)
abbrev w_LazyMachine_stepLeft : List Cond := c0_LazyMachine_stepLeft :: wd
abbrev c0_Pile_add : Cond := Cond.code y_Pile_add b_Pile_add 4 none
abbrev w_Pile_add : List Cond := c0_Pile_add :: wd
abbrev c0_Pile_isFull : Cond := Cond.code y_Pile_isFull b_Pile_isFull 1 (some .boolean)
abbrev w_Pile_isFull : List Cond := c0_Pile_isFull :: wd
abbrev c0_LazyMachine_stepRight : Cond := Cond.code y_LazyMachine_stepRight b_LazyMachine_stepRight 3 (some .int)
abbrev w_LazyMachine_stepRight : List Cond := c0_LazyMachine_stepRight :: wd
abbrev c0_Term_sort : Cond := Cond.code y_Term_sort b_Term_sort 2 (some .int)
abbrev w_Term_sort : List Cond := c0_Term_sort :: wd
abbrev c0_LazyMachine_reckon : Cond := Cond.code y_LazyMachine_reckon b_LazyMachine_reckon 3 (some .int)
abbrev w_LazyMachine_reckon : List Cond := c0_LazyMachine_reckon :: wd
abbrev c0_LazyMachine_backWith : Cond := Cond.code y_LazyMachine_backWith b_LazyMachine_backWith 4 (some .int)
abbrev w_LazyMachine_backWith : List Cond := c0_LazyMachine_backWith :: wd
abbrev c0_LazyMachine_stepTest : Cond := Cond.code y_LazyMachine_stepTest b_LazyMachine_stepTest 3 (some .int)
abbrev w_LazyMachine_stepTest : List Cond := c0_LazyMachine_stepTest :: wd
abbrev c0_LazyMachine_stepPart : Cond := Cond.code y_LazyMachine_stepPart b_LazyMachine_stepPart 3 (some .int)
abbrev w_LazyMachine_stepPart : List Cond := c0_LazyMachine_stepPart :: wd
abbrev c0_Heap_state : Cond := Cond.code y_Heap_state b_Heap_state 2 (some .int)
abbrev w_Heap_state : List Cond := c0_Heap_state :: wd
abbrev c0_LazyMachine_ask : Cond := Cond.code y_LazyMachine_ask b_LazyMachine_ask 5 (some .int)
abbrev w_LazyMachine_ask : List Cond := c0_LazyMachine_ask :: wd
abbrev c0_Heap_first : Cond := Cond.code y_Heap_first b_Heap_first 2 (some .int)
abbrev w_Heap_first : List Cond := c0_Heap_first :: wd
abbrev c0_Heap_second : Cond := Cond.code y_Heap_second b_Heap_second 2 (some .int)
abbrev w_Heap_second : List Cond := c0_Heap_second :: wd
abbrev c0_LazyMachine_stepAt : Cond := Cond.code y_LazyMachine_stepAt b_LazyMachine_stepAt 1 (some .int)
abbrev w_LazyMachine_stepAt : List Cond := c0_LazyMachine_stepAt :: wd
abbrev c0_Term_x : Cond := Cond.code y_Term_x b_Term_x 2 (some .int)
abbrev w_Term_x : List Cond := c0_Term_x :: wd
abbrev c0_Heap_boundTo : Cond := Cond.code y_Heap_boundTo b_Heap_boundTo 5 (some .int)
abbrev w_Heap_boundTo : List Cond := c0_Heap_boundTo :: wd
abbrev c0_LazyMachine_stepApply : Cond := Cond.code y_LazyMachine_stepApply b_LazyMachine_stepApply 2 (some .int)
abbrev w_LazyMachine_stepApply : List Cond := c0_LazyMachine_stepApply :: wd
abbrev c0_LazyMachine_cellsFor : Cond := Cond.code y_LazyMachine_cellsFor b_LazyMachine_cellsFor 2 (some .int)
abbrev w_LazyMachine_cellsFor : List Cond := c0_LazyMachine_cellsFor :: wd
abbrev c0_LazyMachine_thunkFor : Cond := Cond.code y_LazyMachine_thunkFor b_LazyMachine_thunkFor 2 (some .int)
abbrev w_LazyMachine_thunkFor : List Cond := c0_LazyMachine_thunkFor :: wd
abbrev c0_LazyMachine_stepUnder : Cond := Cond.code y_LazyMachine_stepUnder b_LazyMachine_stepUnder 4 (some .int)
abbrev w_LazyMachine_stepUnder : List Cond := c0_LazyMachine_stepUnder :: wd
abbrev c0_LazyMachine_stepFix : Cond := Cond.code y_LazyMachine_stepFix b_LazyMachine_stepFix 2 (some .int)
abbrev w_LazyMachine_stepFix : List Cond := c0_LazyMachine_stepFix :: wd
abbrev c0_LazyMachine_stepLet : Cond := Cond.code y_LazyMachine_stepLet b_LazyMachine_stepLet 3 (some .int)
abbrev w_LazyMachine_stepLet : List Cond := c0_LazyMachine_stepLet :: wd
abbrev c0_LazyMachine_stepPair : Cond := Cond.code y_LazyMachine_stepPair b_LazyMachine_stepPair 4 (some .int)
abbrev w_LazyMachine_stepPair : List Cond := c0_LazyMachine_stepPair :: wd
abbrev c0_LazyMachine_result : Cond := Cond.code y_LazyMachine_result b_LazyMachine_result 3 (some .int)
abbrev w_LazyMachine_result : List Cond := c0_LazyMachine_result :: wd
abbrev c0_LazyMachine_into : Cond := Cond.code y_LazyMachine_into b_LazyMachine_into 2 (some .int)
abbrev w_LazyMachine_into : List Cond := c0_LazyMachine_into :: wd
abbrev c0_LazyMachine_apply : Cond := Cond.code y_LazyMachine_apply b_LazyMachine_apply 2 (some .int)
abbrev w_LazyMachine_apply : List Cond := c0_LazyMachine_apply :: wd
abbrev c0_Model_init : Cond := Cond.code y_Model_init b_Model_init 1 none
abbrev w_Model_init : List Cond := c0_Model_init :: wd
abbrev c0_Model_thrown : Cond := Cond.code y_Model_thrown b_Model_thrown 1 (some .int)
abbrev w_Model_thrown : List Cond := c0_Model_thrown :: wd
abbrev c0_Model_put : Cond := Cond.code y_Model_put b_Model_put 4 (some .int)
abbrev w_Model_put : List Cond := c0_Model_put :: wd
abbrev c0_Model_fails : Cond := Cond.code y_Model_fails b_Model_fails 3 (some .boolean)
abbrev w_Model_fails : List Cond := c0_Model_fails :: wd
abbrev c0_Model_load : Cond := Cond.code y_Model_load b_Model_load 8 (some .int)
abbrev w_Model_load : List Cond := c0_Model_load :: wd
abbrev c0_Model_many : Cond := Cond.code y_Model_many b_Model_many 1 (some .int)
abbrev w_Model_many : List Cond := c0_Model_many :: wd
abbrev c0_Model_begin : Cond := Cond.code y_Model_begin b_Model_begin 1 none
abbrev w_Model_begin : List Cond := c0_Model_begin :: wd
abbrev c0_Model_restart : Cond := Cond.code y_Model_restart b_Model_restart 1 none
abbrev w_Model_restart : List Cond := c0_Model_restart :: wd
abbrev c0_Model_run : Cond := Cond.code y_Model_run b_Model_run 4 (some .int)
abbrev w_Model_run : List Cond := c0_Model_run :: wd
abbrev c0_Model_returns : Cond := Cond.code y_Model_returns b_Model_returns 6 (some .boolean)
abbrev w_Model_returns : List Cond := c0_Model_returns :: wd
abbrev c0_Model_stops : Cond := Cond.code y_Model_stops b_Model_stops 2 (some .boolean)
abbrev w_Model_stops : List Cond := c0_Model_stops :: wd
abbrev c0_Model_isFull : Cond := Cond.code y_Model_isFull b_Model_isFull 2 (some .boolean)
abbrev w_Model_isFull : List Cond := c0_Model_isFull :: wd
abbrev c0_Model_mark : Cond := Cond.code y_Model_mark b_Model_mark 3 (some .int)
abbrev w_Model_mark : List Cond := c0_Model_mark :: wd
abbrev c0_Model_meetValue : Cond := Cond.code y_Model_meetValue b_Model_meetValue 4 none
abbrev w_Model_meetValue : List Cond := c0_Model_meetValue :: wd
abbrev c0_Model_meet : Cond := Cond.code y_Model_meet b_Model_meet 2 none
abbrev w_Model_meet : List Cond := c0_Model_meet :: wd
abbrev c0_Model_cell : Cond := Cond.code y_Model_cell b_Model_cell 5 (some .int)
abbrev w_Model_cell : List Cond := c0_Model_cell :: wd
abbrev c0_Model_go : Cond := Cond.code y_Model_go b_Model_go 3 none
abbrev w_Model_go : List Cond := c0_Model_go :: wd
abbrev c0_Model_push : Cond := Cond.code y_Model_push b_Model_push 4 none
abbrev w_Model_push : List Cond := c0_Model_push :: wd
abbrev c0_Model_reckoned : Cond := Cond.code y_Model_reckoned b_Model_reckoned 3 (some .int)
abbrev w_Model_reckoned : List Cond := c0_Model_reckoned :: wd
abbrev c0_Model_give : Cond := Cond.code y_Model_give b_Model_give 4 none
abbrev w_Model_give : List Cond := c0_Model_give :: wd
abbrev c0_Model_part : Cond := Cond.code y_Model_part b_Model_part 3 (some .boolean)
abbrev w_Model_part : List Cond := c0_Model_part :: wd
abbrev c0_Model_asks : Cond := Cond.code y_Model_asks b_Model_asks 5 (some .boolean)
abbrev w_Model_asks : List Cond := c0_Model_asks :: wd
abbrev c0_Model_isHigh : Cond := Cond.code y_Model_isHigh b_Model_isHigh 1 (some .boolean)
abbrev w_Model_isHigh : List Cond := c0_Model_isHigh :: wd
abbrev c0_Model_at : Cond := Cond.code y_Model_at b_Model_at 9 (some .boolean)
abbrev w_Model_at : List Cond := c0_Model_at :: wd
abbrev c0_Model_bound : Cond := Cond.code y_Model_bound b_Model_bound 4 (some .int)
abbrev w_Model_bound : List Cond := c0_Model_bound :: wd
abbrev c0_Model_costs : Cond := Cond.code y_Model_costs b_Model_costs 2 (some .int)
abbrev w_Model_costs : List Cond := c0_Model_costs :: wd
abbrev c0_Model_thunk : Cond := Cond.code y_Model_thunk b_Model_thunk 2 (some .int)
abbrev w_Model_thunk : List Cond := c0_Model_thunk :: wd
abbrev c0_Model_result : Cond := Cond.code y_Model_result b_Model_result 2 (some .int)
abbrev w_Model_result : List Cond := c0_Model_result :: wd
abbrev c0_Model_into : Cond := Cond.code y_Model_into b_Model_into 3 (some .int)
abbrev w_Model_into : List Cond := c0_Model_into :: wd
abbrev c0_Model_apply : Cond := Cond.code y_Model_apply b_Model_apply 4 (some .int)
abbrev w_Model_apply : List Cond := c0_Model_apply :: wd
abbrev c0_Model_count : Cond := Cond.code y_Model_count b_Model_count 3 (some .int)
abbrev w_Model_count : List Cond := c0_Model_count :: wd
end
section
/-! Rows of our own over the kit's: a call with its frame in one row; a contract's entry and end. -/
abbrev lm_pre (D : va_G) (cl : List vw_C) (tys : List (ClassId × FieldType)) (ws : va_W) (sz : Nat) (E : State → Prop) : State → Prop :=
  fun U => U.heap.size = sz ∧ va_P D cl ws U.heap ∧ va_K D cl tys U ∧ va_D (fun _ => True) ws ∧ E U
abbrev lm_at (D : va_G) (cl : List vw_C) (tys : List (ClassId × FieldType)) (A : Nat → Prop) (ws : va_W) (t : State) : Prop :=
  va_P D cl ws t.heap ∧ va_K D cl tys t ∧ va_D A ws
abbrev lm_no : State → Prop := fun _ => True
/-- what a state says that a frame laid over it doesn't change -/
def lm_bl (E : State → Prop) : Prop := ∀ (U : State) (g : JFrame) (mk : MethodId) (a : Array Value), E U → E (U.calling g mk a)
theorem lm_bl_no : lm_bl lm_no := fun _ _ _ _ _ => trivial
theorem lm_blind {av : List Value} {D : va_G} {cl : List vw_C} {tys : List (ClassId × FieldType)} {ws : va_W} {sz : Nat} {E : State → Prop} (hE : lm_bl E) : FrameBlind (va_Pc av (lm_pre D cl tys ws sz E)) := fun a U g mk q => by
  obtain ⟨q0, q1, qP, qK, qD, qE⟩ := q
  exact ⟨q0, q1, qP, va_K.moved (u := U) (U := U.calling g mk a) (Vm.Alike.refl U.vm) qK, qD, hE _ _ _ _ qE⟩
theorem lm_fm {α : Type} {f : Nat → Option α} {is : List Nat} {wc : List α} (h : is.map f = wc.map some) : is.filterMap f = wc := by
  induction is generalizing wc with
  | nil => cases wc with
    | nil => rfl
    | cons a l => simp at h
  | cons i is ih => cases wc with
    | nil => simp at h
    | cons a l =>
      simp only [List.map_cons, List.cons.injEq] at h
      rw [List.filterMap_cons, h.1, ih h.2]
section LMC
variable {p : Program} {l : Launch} {e : Env} {R : Room} {s : State} {m : MethodId} {args : Array Value} {below : List Frame} {meth : Method} {c : Code} {H : Heap} {locs : List Loc} {cells slots : Nat} {Q : State → Prop}
variable {cc : ByteArray} {pc nL : Nat} {ls : Array Slot} {rest st0 : List Value} {A0 : Nat → Prop} {H0 : Heap} {D : va_G} {cl : List vw_C} {tys : List (ClassId × FieldType)} {wr wc ws : va_W}
variable {y : MethodName} {bytes : ByteArray} {maxL mc ms n index : Nat} {ret : Option FieldType} {wsM : List Cond} {rm : Room} {Ts : List Cond} {own C : String} {b : Nat} {As : List Value} {E : State → Prop}
/-- invokevirtual, an int comes back -/
theorem lm_vi {S : Type} {post : Int32 → S → Prop} {wf : S → va_W}
    (F : CallFix p m c cc nL s args Ts own) (hK : va_K D cl tys s) (hP : va_P D cl ws H) (hD : va_D A0 ws) (hS : va_S A0 H0 H locs) (hA : ∀ q, H0.size ≤ q → A0 q)
    (isC isR : List Nat) (hC : isC.map (fun i => ws[i]?) = wc.map some) (hR : isR.map (fun i => ws[i]?) = wr.map some) (hn1 : va_nd isC = true) (hn2 : va_nd isR = true) (hdis : ∀ i ∈ isR, i ∉ isC)
    (hM : Met l y wsM rm (va_Pc (.ref b :: As) (lm_pre D cl tys wc H.size E)) (va_Qi post (fun u => lm_at D cl tys (va_A wc H.size) (wf u)) (va_A wc H.size)) mc ms (va_A wc H.size))
    (cw : CallW R s args own C index y bytes maxL ret wsM rm mc ms n) (hrec : ∃ cellB : Cell, H[b]? = some cellB ∧ cellB.vm.isStatics = false ∧ s.vm.findClass C = some cellB.cls)
    (hE : lm_bl E) (hX : ∀ U : State, U.heap = H → s.WarmedH U.vm → E U)
    (hsize : ls.size = nL) (hlen : As.length = n) (hst : st0 = As.reverse ++ .ref b :: rest) (hroom : (rest.map fun v => v.category).sum ≤ 8)
    (hdg : decode cc pc = .ok (.invokevirtual index, 3)) (hf : cells + mc ≤ R.cells ∧ slots + ms ≤ R.slots)
    (kk : ∀ (r : Int32) (u : S) (H1 : Heap) (locs1 : List Loc), post r u → va_P D cl (wr ++ wf u) H1 → va_D A0 (wr ++ wf u) → va_S A0 H0 H1 locs1 → W p l e R s m args below meth c H1 locs1 (cells + mc) (slots + ms) Q (F0 m (pc + 3) ls (.int r :: rest))) :
    W p l e R s m args below meth c H locs cells slots Q (F0 m pc ls st0) := by
  have hPc : va_P D cl wc H := hP.sub isC (lm_fm hC)
  have hDc := hD.sub isC hn1 hC
  have hFc := va_free (wc := wc) hD hS hA isC hC
  refine va_calli (va_runV (As := As) (rest := rest) F hM cw ⟨lm_blind hE, hrec, fun U hU hW => ⟨rfl, by rw [hU], by rw [hU]; exact hPc, va_K.moved hW.alike hK, hDc.weaken (fun _ _ _ _ => trivial), hX U hU hW⟩⟩ rfl hlen hsize hst (lv_room hroom) hdg hf) hS (fun q _ h => hFc q h) hFc (fun r u t H1 locs1 ht hvm hw hB hz1 hk1 hS1 => ?_)
  obtain ⟨hP1, hK1, hD1⟩ := hB
  rw [ht] at hP1
  obtain ⟨hP2, hD2⟩ := va_join (wr := wr) (w1 := wf u) hP hD isC isR hC hR hn2 hdis hk1 hFc hP1 hD1
  exact kk r u H1 locs1 hw hP2 hD2 hS1
/-- invokevirtual, nothing comes back -/
theorem lm_vv {S : Type} {post : S → Prop} {wf : S → va_W}
    (F : CallFix p m c cc nL s args Ts own) (hK : va_K D cl tys s) (hP : va_P D cl ws H) (hD : va_D A0 ws) (hS : va_S A0 H0 H locs) (hA : ∀ q, H0.size ≤ q → A0 q)
    (isC isR : List Nat) (hC : isC.map (fun i => ws[i]?) = wc.map some) (hR : isR.map (fun i => ws[i]?) = wr.map some) (hn1 : va_nd isC = true) (hn2 : va_nd isR = true) (hdis : ∀ i ∈ isR, i ∉ isC)
    (hM : Met l y wsM rm (va_Pc (.ref b :: As) (lm_pre D cl tys wc H.size E)) (va_Qv post (fun u => lm_at D cl tys (va_A wc H.size) (wf u)) (va_A wc H.size)) mc ms (va_A wc H.size))
    (cw : CallW R s args own C index y bytes maxL ret wsM rm mc ms n) (hrec : ∃ cellB : Cell, H[b]? = some cellB ∧ cellB.vm.isStatics = false ∧ s.vm.findClass C = some cellB.cls)
    (hE : lm_bl E) (hX : ∀ U : State, U.heap = H → s.WarmedH U.vm → E U)
    (hsize : ls.size = nL) (hlen : As.length = n) (hst : st0 = As.reverse ++ .ref b :: rest) (hroom : (rest.map fun v => v.category).sum ≤ 8)
    (hdg : decode cc pc = .ok (.invokevirtual index, 3)) (hf : cells + mc ≤ R.cells ∧ slots + ms ≤ R.slots)
    (kk : ∀ (u : S) (H1 : Heap) (locs1 : List Loc), post u → va_P D cl (wr ++ wf u) H1 → va_D A0 (wr ++ wf u) → va_S A0 H0 H1 locs1 → W p l e R s m args below meth c H1 locs1 (cells + mc) (slots + ms) Q (F0 m (pc + 3) ls rest)) :
    W p l e R s m args below meth c H locs cells slots Q (F0 m pc ls st0) := by
  have hPc : va_P D cl wc H := hP.sub isC (lm_fm hC)
  have hDc := hD.sub isC hn1 hC
  have hFc := va_free (wc := wc) hD hS hA isC hC
  refine va_callv (va_runV (As := As) (rest := rest) F hM cw ⟨lm_blind hE, hrec, fun U hU hW => ⟨rfl, by rw [hU], by rw [hU]; exact hPc, va_K.moved hW.alike hK, hDc.weaken (fun _ _ _ _ => trivial), hX U hU hW⟩⟩ rfl hlen hsize hst (lv_room hroom) hdg hf) hS (fun q _ h => hFc q h) hFc (fun u t H1 locs1 ht hvm hw hB hz1 hk1 hS1 => ?_)
  obtain ⟨hP1, hK1, hD1⟩ := hB
  rw [ht] at hP1
  obtain ⟨hP2, hD2⟩ := va_join (wr := wr) (w1 := wf u) hP hD isC isR hC hR hn2 hdis hk1 hFc hP1 hD1
  exact kk u H1 locs1 hw hP2 hD2 hS1
/-- invokestatic, an int comes back -/
theorem lm_si {S : Type} {post : Int32 → S → Prop} {wf : S → va_W}
    (F : CallFix p m c cc nL s args Ts own) (hK : va_K D cl tys s) (hP : va_P D cl ws H) (hD : va_D A0 ws) (hS : va_S A0 H0 H locs) (hA : ∀ q, H0.size ≤ q → A0 q)
    (isC isR : List Nat) (hC : isC.map (fun i => ws[i]?) = wc.map some) (hR : isR.map (fun i => ws[i]?) = wr.map some) (hn1 : va_nd isC = true) (hn2 : va_nd isR = true) (hdis : ∀ i ∈ isR, i ∉ isC)
    (hM : Met l y wsM rm (va_Pc As (lm_pre D cl tys wc H.size E)) (va_Qi post (fun u => lm_at D cl tys (va_A wc H.size) (wf u)) (va_A wc H.size)) mc ms (va_A wc H.size))
    (cw : CallB R s args own index y bytes maxL ret wsM rm mc ms n ∧ (Cond.static y).before args s = true)
    (hE : lm_bl E) (hX : ∀ U : State, U.heap = H → s.WarmedH U.vm → E U)
    (hsize : ls.size = nL) (hlen : As.length = n) (hst : st0 = As.reverse ++ rest) (hroom : (rest.map fun v => v.category).sum ≤ 8)
    (hdg : decode cc pc = .ok (.invokestatic index, 3)) (hf : cells + mc ≤ R.cells ∧ slots + ms ≤ R.slots)
    (kk : ∀ (r : Int32) (u : S) (H1 : Heap) (locs1 : List Loc), post r u → va_P D cl (wr ++ wf u) H1 → va_D A0 (wr ++ wf u) → va_S A0 H0 H1 locs1 → W p l e R s m args below meth c H1 locs1 (cells + mc) (slots + ms) Q (F0 m (pc + 3) ls (.int r :: rest))) :
    W p l e R s m args below meth c H locs cells slots Q (F0 m pc ls st0) := by
  have hPc : va_P D cl wc H := hP.sub isC (lm_fm hC)
  have hDc := hD.sub isC hn1 hC
  have hFc := va_free (wc := wc) hD hS hA isC hC
  refine va_calli (va_runS (As := As) (rest := rest) F hM cw ⟨lm_blind hE, fun U hU hW => ⟨rfl, by rw [hU], by rw [hU]; exact hPc, va_K.moved hW.alike hK, hDc.weaken (fun _ _ _ _ => trivial), hX U hU hW⟩⟩ rfl hlen hsize hst (lv_room hroom) hdg hf) hS (fun q _ h => hFc q h) hFc (fun r u t H1 locs1 ht hvm hw hB hz1 hk1 hS1 => ?_)
  obtain ⟨hP1, hK1, hD1⟩ := hB
  rw [ht] at hP1
  obtain ⟨hP2, hD2⟩ := va_join (wr := wr) (w1 := wf u) hP hD isC isR hC hR hn2 hdis hk1 hFc hP1 hD1
  exact kk r u H1 locs1 hw hP2 hD2 hS1
/-- invokespecial <init>, on a new object -/
theorem lm_iv {S : Type} {post : S → Prop} {wf : S → va_W}
    (F : CallFix p m c cc nL s args Ts own) (hK : va_K D cl tys s) (hP : va_P D cl ws H) (hD : va_D A0 ws) (hS : va_S A0 H0 H locs) (hA : ∀ q, H0.size ≤ q → A0 q)
    (isC isR : List Nat) (hC : isC.map (fun i => ws[i]?) = wc.map some) (hR : isR.map (fun i => ws[i]?) = wr.map some) (hn1 : va_nd isC = true) (hn2 : va_nd isR = true) (hdis : ∀ i ∈ isR, i ∉ isC)
    {B : S → State → Prop}
    (hM : Met l y wsM rm (va_Pc (.ref b :: As) (lm_pre D cl tys wc H.size E)) (va_Qv post B (va_A wc H.size)) mc ms (va_A wc H.size))
    (hB : ∀ u t, B u t → lm_at D cl tys (va_A wc H.size) (wf u) t)
    (cw : CallB R s args own index y bytes maxL none wsM rm mc ms n ∧ y.name = "<init>" ∧ (Cond.instanceMethod y).before args s = true)
    (hE : lm_bl E) (hX : ∀ U : State, U.heap = H → s.WarmedH U.vm → E U)
    (hsize : ls.size = nL) (hlen : As.length = n) (hst : st0 = As.reverse ++ .ref b :: rest) (hroom : (rest.map fun v => v.category).sum ≤ 8)
    (hdg : decode cc pc = .ok (.invokespecial index, 3)) (hf : cells + mc ≤ R.cells ∧ slots + ms ≤ R.slots)
    (kk : ∀ (u : S) (H1 : Heap) (locs1 : List Loc), post u → va_P D cl (wr ++ wf u) H1 → va_D A0 (wr ++ wf u) → va_S A0 H0 H1 locs1 → W p l e R s m args below meth c H1 locs1 (cells + mc) (slots + ms) Q (F0 m (pc + 3) ls rest)) :
    W p l e R s m args below meth c H locs cells slots Q (F0 m pc ls st0) := by
  have hPc : va_P D cl wc H := hP.sub isC (lm_fm hC)
  have hDc := hD.sub isC hn1 hC
  have hFc := va_free (wc := wc) hD hS hA isC hC
  refine va_callv (va_runI (As := As) (rest := rest) F hM cw ⟨lm_blind hE, fun U hU hW => ⟨rfl, by rw [hU], by rw [hU]; exact hPc, va_K.moved hW.alike hK, hDc.weaken (fun _ _ _ _ => trivial), hX U hU hW⟩⟩ rfl hlen hsize hst (lv_room hroom) hdg hf) hS (fun q _ h => hFc q h) hFc (fun u t H1 locs1 ht hvm hw hB1 hz1 hk1 hS1 => ?_)
  obtain ⟨hP1, hK1, hD1⟩ := hB u t hB1
  rw [ht] at hP1
  obtain ⟨hP2, hD2⟩ := va_join (wr := wr) (w1 := wf u) hP hD isC isR hC hR hn2 hdis hk1 hFc hP1 hD1
  exact kk u H1 locs1 hw hP2 hD2 hS1
/-- ireturn -/
theorem lm_ri {S : Type} {post : Int32 → S → Prop} {wf : S → va_W} {A : Nat → Prop} {v : Int32} (hx : p.tables.exec = Jvm.exec) (hb : c.code = cc) (hr : meth.sig.returnType = some .int) (hlocks : meth.locks = false)
    (u : S) (hpost : post v u) (hP : va_P D cl (wf u) H) (hK : va_K D cl tys s) (hD : va_D A (wf u)) (hS : va_S A s.heap H locs) (hdg : decode cc pc = .ok (.ireturn, 1)) :
    W p l e R s m args below meth c H locs cells slots (MQ below (va_Qi post (fun u => lm_at D cl tys A (wf u)) A) args s cells slots A) (F0 m pc ls [.int v]) :=
  W.iret (v := v) hx hb hr (fun t ht hW => ⟨⟨v, u, rfl, hpost, by rw [ht]; exact hP, va_K.moved hW.alike hK, hD⟩, hS.F ht⟩) hS.2.2 hdg hlocks
/-- ireturn of a boolean -/
theorem lm_rz {S : Type} {post : Int32 → S → Prop} {wf : S → va_W} {A : Nat → Prop} {v : Int32} (hx : p.tables.exec = Jvm.exec) (hb : c.code = cc) (hr : meth.sig.returnType = some .boolean) (hlocks : meth.locks = false) (hv : v = 0 ∨ v = 1)
    (u : S) (hpost : post v u) (hP : va_P D cl (wf u) H) (hK : va_K D cl tys s) (hD : va_D A (wf u)) (hS : va_S A s.heap H locs) (hdg : decode cc pc = .ok (.ireturn, 1)) :
    W p l e R s m args below meth c H locs cells slots (MQ below (va_Qi post (fun u => lm_at D cl tys A (wf u)) A) args s cells slots A) (F0 m pc ls [.int v]) :=
  W.zret (v := v) hx hb hr (by rcases hv with rfl | rfl <;> decide +kernel) (fun t ht hW => ⟨⟨v, u, rfl, hpost, by rw [ht]; exact hP, va_K.moved hW.alike hK, hD⟩, hS.F ht⟩) hS.2.2 hdg hlocks
/-- return -/
theorem lm_rv {S : Type} {post : S → Prop} {wf : S → va_W} {A : Nat → Prop} (hx : p.tables.exec = Jvm.exec) (hb : c.code = cc) (hr : meth.sig.returnType = none) (hlocks : meth.locks = false)
    (u : S) (hpost : post u) (hP : va_P D cl (wf u) H) (hK : va_K D cl tys s) (hD : va_D A (wf u)) (hS : va_S A s.heap H locs) (hdg : decode cc pc = .ok (.return_, 1)) :
    W p l e R s m args below meth c H locs cells slots (MQ below (va_Qv post (fun u => lm_at D cl tys A (wf u)) A) args s cells slots A) (F0 m pc ls []) :=
  W.vret hx hb hr (fun t ht hW => ⟨⟨u, rfl, hpost, by rw [ht]; exact hP, va_K.moved hW.alike hK, hD⟩, hS.F ht⟩) hS.2.2 hdg hlocks
end LMC
/-- a contract out of its body's walk -/
theorem lm_met {l : Launch} {y : MethodName} {wsM ws' : List Cond} {rm : Room} {cc : ByteArray} {maxL : Nat} {ret : Option FieldType} {D : va_G} {cl : List vw_C} {tys : List (ClassId × FieldType)} {ws : va_W} {E : State → Prop} {av : List Value} {sz : Nat} (Qc : (Nat → Prop) → Array Value → State → Outcome → State → Prop) {mc ms : Nat}
    (hy : plainName y.cls = true) (hw : wsM = Cond.code y cc maxL ret :: ws') (hlen : (lg_sl av).length ≤ maxL)
    (body : ∀ (p : Program) (e : Env) (s : State) (m : MethodId) (below : List Frame) (meth : Method) (c : Code) (A : Nat → Prop), p.tables.exec = Jvm.exec → c.code = cc → meth.sig.returnType = ret → (∀ w ∈ wsM, w.before av.toArray s = true) → s.vm.findClass y.cls = some m.cls → meth.locks = false → meth.name = y.name → c.maxLocals = maxL →
      va_K D cl tys s → va_P D cl ws s.heap → va_D A ws → (∀ q, s.heap.size ≤ q → A q) → E s → s.heap.size = sz → A = va_A ws s.heap.size → va_S A s.heap s.heap [] → ∀ ls : Array Slot, lv_has ls maxL (lv_args 0 av) →
      W p l e (headSpec wsM rm).room s m av.toArray below meth c s.heap [] 0 0 (MQ below (Qc A) av.toArray s mc ms A) (F0 m 0 ls [])) :
    Met l y wsM rm (va_Pc av (lm_pre D cl tys ws sz E)) (Qc (va_A ws sz)) mc ms (va_A ws sz) := by
  refine Met.ofW (cc := cc) (maxL := maxL) (ret := ret) hy hw ?_
  intro p e s m args below meth c s₁ B hml hv
  obtain ⟨rfl, hsz, hP, hK, hD0, hE⟩ := hv
  have hts := atoms_spec (ws := wsM) B.pre
  rw [lg_entry_eq]
  subst hsz
  exact body p e s m below meth c _ B.exec B.bytes B.returns hts (findClass_of_methodNamed B.named) B.notSynchronized (name_of_methodNamed B.named B.method).1 hml hK hP (hD0.self (sz := s.heap.size)) (fun q h => Or.inr h) hE rfl rfl va_S.rf _ (lv_entry av hlen)
/-- two classes of arrays of ints are one -/
theorem lm_one {D : va_G} {cl : List vw_C} {c1 c2 : ClassId} {U : State} (h : va_K D cl [(c1, .int), (c2, .int)] U) : c1 = c2 := by
  have h1 := (h.2 0 (c1, .int) rfl).2
  have h2 := (h.2 1 (c2, .int) rfl).2
  have h1 : U.vm.findClass ("[" ++ FieldType.int.toString) = some c1 := h1
  have h2 : U.vm.findClass ("[" ++ FieldType.int.toString) = some c2 := h2
  rw [h1] at h2
  exact Option.some.inj h2
abbrev ZLS : Type := Int32 × Int32 × Int32 × Int32 × Int32 × Int32 × Int32 × Int32 × Int32
abbrev ma_W (cA : ClassId) (ad : Nat → Nat) (S : ZLS) : va_W := [(ad 0, .inr (0, [.ref (ad 1), .ref (ad 8), .ref (ad 12), .ref (ad 19), .int S.1, .int S.2.1, .int S.2.2.1, .int S.2.2.2.1, .int S.2.2.2.2.1, .int S.2.2.2.2.2.1, .int S.2.2.2.2.2.2.1, .int S.2.2.2.2.2.2.2.1, .int S.2.2.2.2.2.2.2.2]))]
abbrev ma_W2 (cA : ClassId) (ad : Nat → Nat) (waiting : Nat) (term : Nat) (S : ZLS) : va_W := [(ad 0, .inr (0, [.ref (ad 1), .ref (ad 8), .ref (waiting), .ref (term), .int S.1, .int S.2.1, .int S.2.2.1, .int S.2.2.2.1, .int S.2.2.2.2.1, .int S.2.2.2.2.2.1, .int S.2.2.2.2.2.2.1, .int S.2.2.2.2.2.2.2.1, .int S.2.2.2.2.2.2.2.2]))]
abbrev ZHS : Type := (Nat → Int32) × (Nat → Int32) × (Nat → Int32) × (Nat → Int32) × (Nat → Int32) × (Nat → Int32) × Int32 × Int32 × Int32
abbrev hp_W (cA : ClassId) (ad : Nat → Nat) (S : ZHS) : va_W := [(ad 0, .inr (1, [.ref (ad 1), .ref (ad 2), .ref (ad 3), .ref (ad 4), .ref (ad 5), .ref (ad 6), .int S.2.2.2.2.2.2.1, .int S.2.2.2.2.2.2.2.1, .int S.2.2.2.2.2.2.2.2])), (ad 1, .inl (cA, 256, .inl S.1)), (ad 2, .inl (cA, 256, .inl S.2.1)), (ad 3, .inl (cA, 256, .inl S.2.2.1)), (ad 4, .inl (cA, 256, .inl S.2.2.2.1)), (ad 5, .inl (cA, 256, .inl S.2.2.2.2.1)), (ad 6, .inl (cA, 256, .inl S.2.2.2.2.2.1))]
abbrev ZPS : Type := (Nat → Int32) × (Nat → Int32) × (Nat → Int32) × Int32 × Int32
abbrev pl_W (cA : ClassId) (ad : Nat → Nat) (S : ZPS) : va_W := [(ad 0, .inr (2, [.ref (ad 1), .ref (ad 2), .ref (ad 3), .int S.2.2.2.1, .int S.2.2.2.2])), (ad 1, .inl (cA, 200, .inl S.1)), (ad 2, .inl (cA, 200, .inl S.2.1)), (ad 3, .inl (cA, 200, .inl S.2.2.1))]
abbrev ZTS : Type := (Nat → Int32) × (Nat → Int32) × (Nat → Int32) × (Nat → Int32) × (Nat → Int32) × (Nat → Int32) × Int32
abbrev tm_W (cA : ClassId) (ad : Nat → Nat) (S : ZTS) : va_W := [(ad 0, .inr (3, [.ref (ad 1), .ref (ad 2), .ref (ad 3), .ref (ad 4), .ref (ad 5), .ref (ad 6), .int S.2.2.2.2.2.2])), (ad 1, .inl (cA, 200, .inl S.1)), (ad 2, .inl (cA, 200, .inl S.2.1)), (ad 3, .inl (cA, 600, .inl S.2.2.1)), (ad 4, .inl (cA, 200, .inl S.2.2.2.1)), (ad 5, .inl (cA, 200, .inl S.2.2.2.2.1)), (ad 6, .inl (cA, 200, .inl S.2.2.2.2.2.1))]
abbrev ZRS : Type := Int32 × (Nat → Int32) × (Nat → Int32) × Int32 × (Nat → Int32) × (Nat → Int32) × (Nat → Int32) × Int32 × (Nat → Int32) × (Nat → Int32) × (Nat → Int32) × (Nat → Int32) × (Nat → Int32) × (Nat → Int32) × (Nat → Int32) × Int32 × (Nat → Int32) × (Nat → Int32) × (Nat → Int32) × Int32 × Int32 × Int32 × Int32 × Int32 × Int32 × Int32 × Int32 × Int32 × Int32 × Int32
abbrev md_W (cA cZ : ClassId) (ad : Nat → Nat) (S : ZRS) : va_W := [(ad 0, .inr (4, [.int S.1, .ref (ad 1), .ref (ad 2), .int S.2.2.2.1, .ref (ad 3), .ref (ad 4), .ref (ad 5), .int S.2.2.2.2.2.2.2.1, .ref (ad 6), .ref (ad 7), .ref (ad 8), .ref (ad 9), .ref (ad 10), .ref (ad 11), .ref (ad 12), .int S.2.2.2.2.2.2.2.2.2.2.2.2.2.2.2.1, .ref (ad 13), .ref (ad 14), .ref (ad 15), .int S.2.2.2.2.2.2.2.2.2.2.2.2.2.2.2.2.2.2.2.1, .int S.2.2.2.2.2.2.2.2.2.2.2.2.2.2.2.2.2.2.2.2.1, .int S.2.2.2.2.2.2.2.2.2.2.2.2.2.2.2.2.2.2.2.2.2.1, .int S.2.2.2.2.2.2.2.2.2.2.2.2.2.2.2.2.2.2.2.2.2.2.1, .int S.2.2.2.2.2.2.2.2.2.2.2.2.2.2.2.2.2.2.2.2.2.2.2.1, .int S.2.2.2.2.2.2.2.2.2.2.2.2.2.2.2.2.2.2.2.2.2.2.2.2.1, .int S.2.2.2.2.2.2.2.2.2.2.2.2.2.2.2.2.2.2.2.2.2.2.2.2.2.1, .int S.2.2.2.2.2.2.2.2.2.2.2.2.2.2.2.2.2.2.2.2.2.2.2.2.2.2.1, .int S.2.2.2.2.2.2.2.2.2.2.2.2.2.2.2.2.2.2.2.2.2.2.2.2.2.2.2.1, .int S.2.2.2.2.2.2.2.2.2.2.2.2.2.2.2.2.2.2.2.2.2.2.2.2.2.2.2.2.1, .int S.2.2.2.2.2.2.2.2.2.2.2.2.2.2.2.2.2.2.2.2.2.2.2.2.2.2.2.2.2])), (ad 1, .inl (cA, 200, .inl S.2.1)), (ad 2, .inl (cA, 200, .inl S.2.2.1)), (ad 3, .inl (cA, 200, .inl S.2.2.2.2.1)), (ad 4, .inl (cA, 200, .inl S.2.2.2.2.2.1)), (ad 5, .inl (cA, 600, .inl S.2.2.2.2.2.2.1)), (ad 6, .inl (cA, 700, .inl S.2.2.2.2.2.2.2.2.1)), (ad 7, .inl (cA, 700, .inl S.2.2.2.2.2.2.2.2.2.1)), (ad 8, .inl (cA, 256, .inl S.2.2.2.2.2.2.2.2.2.2.1)), (ad 9, .inl (cA, 256, .inl S.2.2.2.2.2.2.2.2.2.2.2.1)), (ad 10, .inl (cA, 256, .inl S.2.2.2.2.2.2.2.2.2.2.2.2.1)), (ad 11, .inl (cZ, 256, .inl S.2.2.2.2.2.2.2.2.2.2.2.2.2.1)), (ad 12, .inl (cA, 256, .inl S.2.2.2.2.2.2.2.2.2.2.2.2.2.2.1)), (ad 13, .inl (cA, 200, .inl S.2.2.2.2.2.2.2.2.2.2.2.2.2.2.2.2.1)), (ad 14, .inl (cA, 200, .inl S.2.2.2.2.2.2.2.2.2.2.2.2.2.2.2.2.2.1)), (ad 15, .inl (cA, 200, .inl S.2.2.2.2.2.2.2.2.2.2.2.2.2.2.2.2.2.2.1))]
abbrev ZMS : Type := (ZLS) × (ZHS) × (ZPS) × (ZTS) × ZTS
abbrev lz_W (cA : ClassId) (ad : Nat → Nat) (S : ZMS) : va_W := ma_W cA ad S.1 ++ (hp_W cA (fun k => ad (k + 1)) S.2.1 ++ (pl_W cA (fun k => ad (k + 8)) S.2.2.1 ++ (tm_W cA (fun k => ad (k + 12)) S.2.2.2.1 ++ (tm_W cA (fun k => ad (k + 19)) S.2.2.2.2))))
end
section
theorem d_Heap_free_0 : decode b_Heap_free 0 = .ok (.aload_n 0, 1) := by decide +kernel
theorem d_Heap_free_1 : decode b_Heap_free 1 = .ok (.getfield 36, 3) := by decide +kernel
theorem d_Heap_free_4 : decode b_Heap_free 4 = .ok (.ireturn, 1) := by decide +kernel
theorem d_Heap_state_0 : decode b_Heap_state 0 = .ok (.iload_n 1, 1) := by decide +kernel
theorem d_Heap_state_1 : decode b_Heap_state 1 = .ok (.iconst (-1), 1) := by decide +kernel
theorem d_Heap_state_2 : decode b_Heap_state 2 = .ok (.if_icmp .ne 7, 3) := by decide +kernel
theorem d_Heap_state_5 : decode b_Heap_state 5 = .ok (.iconst 4, 1) := by decide +kernel
theorem d_Heap_state_6 : decode b_Heap_state 6 = .ok (.goto 9, 3) := by decide +kernel
theorem d_Heap_state_9 : decode b_Heap_state 9 = .ok (.aload_n 0, 1) := by decide +kernel
theorem d_Heap_state_10 : decode b_Heap_state 10 = .ok (.getfield 9, 3) := by decide +kernel
theorem d_Heap_state_13 : decode b_Heap_state 13 = .ok (.iload_n 1, 1) := by decide +kernel
theorem d_Heap_state_14 : decode b_Heap_state 14 = .ok (.iaload, 1) := by decide +kernel
theorem d_Heap_state_15 : decode b_Heap_state 15 = .ok (.ireturn, 1) := by decide +kernel
theorem d_Heap_first_0 : decode b_Heap_first 0 = .ok (.iload_n 1, 1) := by decide +kernel
theorem d_Heap_first_1 : decode b_Heap_first 1 = .ok (.iconst (-1), 1) := by decide +kernel
theorem d_Heap_first_2 : decode b_Heap_first 2 = .ok (.if_icmp .ne 7, 3) := by decide +kernel
theorem d_Heap_first_5 : decode b_Heap_first 5 = .ok (.iconst (-1), 1) := by decide +kernel
theorem d_Heap_first_6 : decode b_Heap_first 6 = .ok (.goto 9, 3) := by decide +kernel
theorem d_Heap_first_9 : decode b_Heap_first 9 = .ok (.aload_n 0, 1) := by decide +kernel
theorem d_Heap_first_10 : decode b_Heap_first 10 = .ok (.getfield 15, 3) := by decide +kernel
theorem d_Heap_first_13 : decode b_Heap_first 13 = .ok (.iload_n 1, 1) := by decide +kernel
theorem d_Heap_first_14 : decode b_Heap_first 14 = .ok (.iaload, 1) := by decide +kernel
theorem d_Heap_first_15 : decode b_Heap_first 15 = .ok (.ireturn, 1) := by decide +kernel
theorem d_Heap_second_0 : decode b_Heap_second 0 = .ok (.iload_n 1, 1) := by decide +kernel
theorem d_Heap_second_1 : decode b_Heap_second 1 = .ok (.iconst (-1), 1) := by decide +kernel
theorem d_Heap_second_2 : decode b_Heap_second 2 = .ok (.if_icmp .ne 7, 3) := by decide +kernel
theorem d_Heap_second_5 : decode b_Heap_second 5 = .ok (.iconst (-1), 1) := by decide +kernel
theorem d_Heap_second_6 : decode b_Heap_second 6 = .ok (.goto 9, 3) := by decide +kernel
theorem d_Heap_second_9 : decode b_Heap_second 9 = .ok (.aload_n 0, 1) := by decide +kernel
theorem d_Heap_second_10 : decode b_Heap_second 10 = .ok (.getfield 18, 3) := by decide +kernel
theorem d_Heap_second_13 : decode b_Heap_second 13 = .ok (.iload_n 1, 1) := by decide +kernel
theorem d_Heap_second_14 : decode b_Heap_second 14 = .ok (.iaload, 1) := by decide +kernel
theorem d_Heap_second_15 : decode b_Heap_second 15 = .ok (.ireturn, 1) := by decide +kernel
theorem d_Heap_become_0 : decode b_Heap_become 0 = .ok (.iload_n 1, 1) := by decide +kernel
theorem d_Heap_become_1 : decode b_Heap_become 1 = .ok (.iconst (-1), 1) := by decide +kernel
theorem d_Heap_become_2 : decode b_Heap_become 2 = .ok (.if_icmp .ne 4, 3) := by decide +kernel
theorem d_Heap_become_5 : decode b_Heap_become 5 = .ok (.return_, 1) := by decide +kernel
theorem d_Heap_become_6 : decode b_Heap_become 6 = .ok (.aload_n 0, 1) := by decide +kernel
theorem d_Heap_become_7 : decode b_Heap_become 7 = .ok (.getfield 9, 3) := by decide +kernel
theorem d_Heap_become_10 : decode b_Heap_become 10 = .ok (.iload_n 1, 1) := by decide +kernel
theorem d_Heap_become_11 : decode b_Heap_become 11 = .ok (.iload_n 2, 1) := by decide +kernel
theorem d_Heap_become_12 : decode b_Heap_become 12 = .ok (.iastore, 1) := by decide +kernel
theorem d_Heap_become_13 : decode b_Heap_become 13 = .ok (.aload_n 0, 1) := by decide +kernel
theorem d_Heap_become_14 : decode b_Heap_become 14 = .ok (.getfield 15, 3) := by decide +kernel
theorem d_Heap_become_17 : decode b_Heap_become 17 = .ok (.iload_n 1, 1) := by decide +kernel
theorem d_Heap_become_18 : decode b_Heap_become 18 = .ok (.iload_n 3, 1) := by decide +kernel
theorem d_Heap_become_19 : decode b_Heap_become 19 = .ok (.iastore, 1) := by decide +kernel
theorem d_Heap_become_20 : decode b_Heap_become 20 = .ok (.aload_n 0, 1) := by decide +kernel
theorem d_Heap_become_21 : decode b_Heap_become 21 = .ok (.getfield 18, 3) := by decide +kernel
theorem d_Heap_become_24 : decode b_Heap_become 24 = .ok (.iload_n 1, 1) := by decide +kernel
theorem d_Heap_become_25 : decode b_Heap_become 25 = .ok (.iload 4, 2) := by decide +kernel
theorem d_Heap_become_27 : decode b_Heap_become 27 = .ok (.iastore, 1) := by decide +kernel
theorem d_Heap_become_28 : decode b_Heap_become 28 = .ok (.return_, 1) := by decide +kernel
theorem d_Heap_beginMarks_0 : decode b_Heap_beginMarks 0 = .ok (.aload_n 0, 1) := by decide +kernel
theorem d_Heap_beginMarks_1 : decode b_Heap_beginMarks 1 = .ok (.dup, 1) := by decide +kernel
theorem d_Heap_beginMarks_2 : decode b_Heap_beginMarks 2 = .ok (.getfield 48, 3) := by decide +kernel
theorem d_Heap_beginMarks_5 : decode b_Heap_beginMarks 5 = .ok (.iconst 1, 1) := by decide +kernel
theorem d_Heap_beginMarks_6 : decode b_Heap_beginMarks 6 = .ok (.iadd, 1) := by decide +kernel
theorem d_Heap_beginMarks_7 : decode b_Heap_beginMarks 7 = .ok (.putfield 48, 3) := by decide +kernel
theorem d_Heap_beginMarks_10 : decode b_Heap_beginMarks 10 = .ok (.aload_n 0, 1) := by decide +kernel
theorem d_Heap_beginMarks_11 : decode b_Heap_beginMarks 11 = .ok (.iconst 0, 1) := by decide +kernel
theorem d_Heap_beginMarks_12 : decode b_Heap_beginMarks 12 = .ok (.putfield 51, 3) := by decide +kernel
theorem d_Heap_beginMarks_15 : decode b_Heap_beginMarks 15 = .ok (.return_, 1) := by decide +kernel
theorem d_Heap_take_0 : decode b_Heap_take 0 = .ok (.aload_n 0, 1) := by decide +kernel
theorem d_Heap_take_1 : decode b_Heap_take 1 = .ok (.getfield 36, 3) := by decide +kernel
theorem d_Heap_take_4 : decode b_Heap_take 4 = .ok (.ifCond .ne 5, 3) := by decide +kernel
theorem d_Heap_take_7 : decode b_Heap_take 7 = .ok (.iconst (-1), 1) := by decide +kernel
theorem d_Heap_take_8 : decode b_Heap_take 8 = .ok (.ireturn, 1) := by decide +kernel
theorem d_Heap_take_9 : decode b_Heap_take 9 = .ok (.aload_n 0, 1) := by decide +kernel
theorem d_Heap_take_10 : decode b_Heap_take 10 = .ok (.dup, 1) := by decide +kernel
theorem d_Heap_take_11 : decode b_Heap_take 11 = .ok (.getfield 36, 3) := by decide +kernel
theorem d_Heap_take_14 : decode b_Heap_take 14 = .ok (.iconst 1, 1) := by decide +kernel
theorem d_Heap_take_15 : decode b_Heap_take 15 = .ok (.isub, 1) := by decide +kernel
theorem d_Heap_take_16 : decode b_Heap_take 16 = .ok (.putfield 36, 3) := by decide +kernel
theorem d_Heap_take_19 : decode b_Heap_take 19 = .ok (.aload_n 0, 1) := by decide +kernel
theorem d_Heap_take_20 : decode b_Heap_take 20 = .ok (.getfield 21, 3) := by decide +kernel
theorem d_Heap_take_23 : decode b_Heap_take 23 = .ok (.aload_n 0, 1) := by decide +kernel
theorem d_Heap_take_24 : decode b_Heap_take 24 = .ok (.getfield 36, 3) := by decide +kernel
theorem d_Heap_take_27 : decode b_Heap_take 27 = .ok (.iaload, 1) := by decide +kernel
theorem d_Heap_take_28 : decode b_Heap_take 28 = .ok (.istore 4, 2) := by decide +kernel
theorem d_Heap_take_30 : decode b_Heap_take 30 = .ok (.aload_n 0, 1) := by decide +kernel
theorem d_Heap_take_31 : decode b_Heap_take 31 = .ok (.iload 4, 2) := by decide +kernel
theorem d_Heap_take_33 : decode b_Heap_take 33 = .ok (.iload_n 1, 1) := by decide +kernel
theorem d_Heap_take_34 : decode b_Heap_take 34 = .ok (.iload_n 2, 1) := by decide +kernel
theorem d_Heap_take_35 : decode b_Heap_take 35 = .ok (.iload_n 3, 1) := by decide +kernel
theorem d_Heap_take_36 : decode b_Heap_take 36 = .ok (.invokevirtual 40, 3) := by decide +kernel
theorem d_Heap_take_39 : decode b_Heap_take 39 = .ok (.iload 4, 2) := by decide +kernel
theorem d_Heap_take_41 : decode b_Heap_take 41 = .ok (.ireturn, 1) := by decide +kernel
theorem d_Heap_reach_0 : decode b_Heap_reach 0 = .ok (.iload_n 1, 1) := by decide +kernel
theorem d_Heap_reach_1 : decode b_Heap_reach 1 = .ok (.iconst (-1), 1) := by decide +kernel
theorem d_Heap_reach_2 : decode b_Heap_reach 2 = .ok (.if_icmp .eq 16, 3) := by decide +kernel
theorem d_Heap_reach_5 : decode b_Heap_reach 5 = .ok (.aload_n 0, 1) := by decide +kernel
theorem d_Heap_reach_6 : decode b_Heap_reach 6 = .ok (.getfield 24, 3) := by decide +kernel
theorem d_Heap_reach_9 : decode b_Heap_reach 9 = .ok (.iload_n 1, 1) := by decide +kernel
theorem d_Heap_reach_10 : decode b_Heap_reach 10 = .ok (.iaload, 1) := by decide +kernel
theorem d_Heap_reach_11 : decode b_Heap_reach 11 = .ok (.aload_n 0, 1) := by decide +kernel
theorem d_Heap_reach_12 : decode b_Heap_reach 12 = .ok (.getfield 48, 3) := by decide +kernel
theorem d_Heap_reach_15 : decode b_Heap_reach 15 = .ok (.if_icmp .ne 4, 3) := by decide +kernel
theorem d_Heap_reach_18 : decode b_Heap_reach 18 = .ok (.return_, 1) := by decide +kernel
theorem d_Heap_reach_19 : decode b_Heap_reach 19 = .ok (.aload_n 0, 1) := by decide +kernel
theorem d_Heap_reach_20 : decode b_Heap_reach 20 = .ok (.getfield 24, 3) := by decide +kernel
theorem d_Heap_reach_23 : decode b_Heap_reach 23 = .ok (.iload_n 1, 1) := by decide +kernel
theorem d_Heap_reach_24 : decode b_Heap_reach 24 = .ok (.aload_n 0, 1) := by decide +kernel
theorem d_Heap_reach_25 : decode b_Heap_reach 25 = .ok (.getfield 48, 3) := by decide +kernel
theorem d_Heap_reach_28 : decode b_Heap_reach 28 = .ok (.iastore, 1) := by decide +kernel
theorem d_Heap_reach_29 : decode b_Heap_reach 29 = .ok (.aload_n 0, 1) := by decide +kernel
theorem d_Heap_reach_30 : decode b_Heap_reach 30 = .ok (.getfield 27, 3) := by decide +kernel
theorem d_Heap_reach_33 : decode b_Heap_reach 33 = .ok (.aload_n 0, 1) := by decide +kernel
theorem d_Heap_reach_34 : decode b_Heap_reach 34 = .ok (.getfield 51, 3) := by decide +kernel
theorem d_Heap_reach_37 : decode b_Heap_reach 37 = .ok (.iload_n 1, 1) := by decide +kernel
theorem d_Heap_reach_38 : decode b_Heap_reach 38 = .ok (.iastore, 1) := by decide +kernel
theorem d_Heap_reach_39 : decode b_Heap_reach 39 = .ok (.aload_n 0, 1) := by decide +kernel
theorem d_Heap_reach_40 : decode b_Heap_reach 40 = .ok (.dup, 1) := by decide +kernel
theorem d_Heap_reach_41 : decode b_Heap_reach 41 = .ok (.getfield 51, 3) := by decide +kernel
theorem d_Heap_reach_44 : decode b_Heap_reach 44 = .ok (.iconst 1, 1) := by decide +kernel
theorem d_Heap_reach_45 : decode b_Heap_reach 45 = .ok (.iadd, 1) := by decide +kernel
theorem d_Heap_reach_46 : decode b_Heap_reach 46 = .ok (.putfield 51, 3) := by decide +kernel
theorem d_Heap_reach_49 : decode b_Heap_reach 49 = .ok (.return_, 1) := by decide +kernel
theorem d_Heap_reachFrom_0 : decode b_Heap_reachFrom 0 = .ok (.iload_n 1, 1) := by decide +kernel
theorem d_Heap_reachFrom_1 : decode b_Heap_reachFrom 1 = .ok (.iconst 5, 1) := by decide +kernel
theorem d_Heap_reachFrom_2 : decode b_Heap_reachFrom 2 = .ok (.if_icmp .eq 8, 3) := by decide +kernel
theorem d_Heap_reachFrom_5 : decode b_Heap_reachFrom 5 = .ok (.iload_n 1, 1) := by decide +kernel
theorem d_Heap_reachFrom_6 : decode b_Heap_reachFrom 6 = .ok (.iconst 2, 1) := by decide +kernel
theorem d_Heap_reachFrom_7 : decode b_Heap_reachFrom 7 = .ok (.if_icmp .ne 16, 3) := by decide +kernel
theorem d_Heap_reachFrom_10 : decode b_Heap_reachFrom 10 = .ok (.aload_n 0, 1) := by decide +kernel
theorem d_Heap_reachFrom_11 : decode b_Heap_reachFrom 11 = .ok (.iload_n 2, 1) := by decide +kernel
theorem d_Heap_reachFrom_12 : decode b_Heap_reachFrom 12 = .ok (.invokevirtual 54, 3) := by decide +kernel
theorem d_Heap_reachFrom_15 : decode b_Heap_reachFrom 15 = .ok (.aload_n 0, 1) := by decide +kernel
theorem d_Heap_reachFrom_16 : decode b_Heap_reachFrom 16 = .ok (.iload_n 3, 1) := by decide +kernel
theorem d_Heap_reachFrom_17 : decode b_Heap_reachFrom 17 = .ok (.invokevirtual 54, 3) := by decide +kernel
theorem d_Heap_reachFrom_20 : decode b_Heap_reachFrom 20 = .ok (.goto 18, 3) := by decide +kernel
theorem d_Heap_reachFrom_23 : decode b_Heap_reachFrom 23 = .ok (.iload_n 1, 1) := by decide +kernel
theorem d_Heap_reachFrom_24 : decode b_Heap_reachFrom 24 = .ok (.iconst 3, 1) := by decide +kernel
theorem d_Heap_reachFrom_25 : decode b_Heap_reachFrom 25 = .ok (.if_icmp .eq 8, 3) := by decide +kernel
theorem d_Heap_reachFrom_28 : decode b_Heap_reachFrom 28 = .ok (.iload_n 1, 1) := by decide +kernel
theorem d_Heap_reachFrom_29 : decode b_Heap_reachFrom 29 = .ok (.iconst 1, 1) := by decide +kernel
theorem d_Heap_reachFrom_30 : decode b_Heap_reachFrom 30 = .ok (.if_icmp .ne 8, 3) := by decide +kernel
theorem d_Heap_reachFrom_33 : decode b_Heap_reachFrom 33 = .ok (.aload_n 0, 1) := by decide +kernel
theorem d_Heap_reachFrom_34 : decode b_Heap_reachFrom 34 = .ok (.iload_n 3, 1) := by decide +kernel
theorem d_Heap_reachFrom_35 : decode b_Heap_reachFrom 35 = .ok (.invokevirtual 54, 3) := by decide +kernel
theorem d_Heap_reachFrom_38 : decode b_Heap_reachFrom 38 = .ok (.return_, 1) := by decide +kernel
theorem d_Heap_spreadMarks_0 : decode b_Heap_spreadMarks 0 = .ok (.iconst 0, 1) := by decide +kernel
theorem d_Heap_spreadMarks_1 : decode b_Heap_spreadMarks 1 = .ok (.istore_n 1, 1) := by decide +kernel
theorem d_Heap_spreadMarks_2 : decode b_Heap_spreadMarks 2 = .ok (.iload_n 1, 1) := by decide +kernel
theorem d_Heap_spreadMarks_3 : decode b_Heap_spreadMarks 3 = .ok (.aload_n 0, 1) := by decide +kernel
theorem d_Heap_spreadMarks_4 : decode b_Heap_spreadMarks 4 = .ok (.getfield 51, 3) := by decide +kernel
theorem d_Heap_spreadMarks_7 : decode b_Heap_spreadMarks 7 = .ok (.if_icmp .ge 45, 3) := by decide +kernel
theorem d_Heap_spreadMarks_10 : decode b_Heap_spreadMarks 10 = .ok (.iload_n 1, 1) := by decide +kernel
theorem d_Heap_spreadMarks_11 : decode b_Heap_spreadMarks 11 = .ok (.sipush 256, 3) := by decide +kernel
theorem d_Heap_spreadMarks_14 : decode b_Heap_spreadMarks 14 = .ok (.if_icmp .ge 38, 3) := by decide +kernel
theorem d_Heap_spreadMarks_17 : decode b_Heap_spreadMarks 17 = .ok (.aload_n 0, 1) := by decide +kernel
theorem d_Heap_spreadMarks_18 : decode b_Heap_spreadMarks 18 = .ok (.getfield 27, 3) := by decide +kernel
theorem d_Heap_spreadMarks_21 : decode b_Heap_spreadMarks 21 = .ok (.iload_n 1, 1) := by decide +kernel
theorem d_Heap_spreadMarks_22 : decode b_Heap_spreadMarks 22 = .ok (.iaload, 1) := by decide +kernel
theorem d_Heap_spreadMarks_23 : decode b_Heap_spreadMarks 23 = .ok (.istore_n 2, 1) := by decide +kernel
theorem d_Heap_spreadMarks_24 : decode b_Heap_spreadMarks 24 = .ok (.aload_n 0, 1) := by decide +kernel
theorem d_Heap_spreadMarks_25 : decode b_Heap_spreadMarks 25 = .ok (.aload_n 0, 1) := by decide +kernel
theorem d_Heap_spreadMarks_26 : decode b_Heap_spreadMarks 26 = .ok (.getfield 9, 3) := by decide +kernel
theorem d_Heap_spreadMarks_29 : decode b_Heap_spreadMarks 29 = .ok (.iload_n 2, 1) := by decide +kernel
theorem d_Heap_spreadMarks_30 : decode b_Heap_spreadMarks 30 = .ok (.iaload, 1) := by decide +kernel
theorem d_Heap_spreadMarks_31 : decode b_Heap_spreadMarks 31 = .ok (.aload_n 0, 1) := by decide +kernel
theorem d_Heap_spreadMarks_32 : decode b_Heap_spreadMarks 32 = .ok (.getfield 15, 3) := by decide +kernel
theorem d_Heap_spreadMarks_35 : decode b_Heap_spreadMarks 35 = .ok (.iload_n 2, 1) := by decide +kernel
theorem d_Heap_spreadMarks_36 : decode b_Heap_spreadMarks 36 = .ok (.iaload, 1) := by decide +kernel
theorem d_Heap_spreadMarks_37 : decode b_Heap_spreadMarks 37 = .ok (.aload_n 0, 1) := by decide +kernel
theorem d_Heap_spreadMarks_38 : decode b_Heap_spreadMarks 38 = .ok (.getfield 18, 3) := by decide +kernel
theorem d_Heap_spreadMarks_41 : decode b_Heap_spreadMarks 41 = .ok (.iload_n 2, 1) := by decide +kernel
theorem d_Heap_spreadMarks_42 : decode b_Heap_spreadMarks 42 = .ok (.iaload, 1) := by decide +kernel
theorem d_Heap_spreadMarks_43 : decode b_Heap_spreadMarks 43 = .ok (.invokevirtual 58, 3) := by decide +kernel
theorem d_Heap_spreadMarks_46 : decode b_Heap_spreadMarks 46 = .ok (.iinc 1 1, 3) := by decide +kernel
theorem d_Heap_spreadMarks_49 : decode b_Heap_spreadMarks 49 = .ok (.goto (-47), 3) := by decide +kernel
theorem d_Heap_spreadMarks_52 : decode b_Heap_spreadMarks 52 = .ok (.aload_n 0, 1) := by decide +kernel
theorem d_Heap_spreadMarks_53 : decode b_Heap_spreadMarks 53 = .ok (.getfield 51, 3) := by decide +kernel
theorem d_Heap_spreadMarks_56 : decode b_Heap_spreadMarks 56 = .ok (.ireturn, 1) := by decide +kernel
theorem d_Heap_freeUnreached_0 : decode b_Heap_freeUnreached 0 = .ok (.aload_n 0, 1) := by decide +kernel
theorem d_Heap_freeUnreached_1 : decode b_Heap_freeUnreached 1 = .ok (.iconst 0, 1) := by decide +kernel
theorem d_Heap_freeUnreached_2 : decode b_Heap_freeUnreached 2 = .ok (.putfield 36, 3) := by decide +kernel
theorem d_Heap_freeUnreached_5 : decode b_Heap_freeUnreached 5 = .ok (.iconst 0, 1) := by decide +kernel
theorem d_Heap_freeUnreached_6 : decode b_Heap_freeUnreached 6 = .ok (.istore_n 1, 1) := by decide +kernel
theorem d_Heap_freeUnreached_7 : decode b_Heap_freeUnreached 7 = .ok (.iload_n 1, 1) := by decide +kernel
theorem d_Heap_freeUnreached_8 : decode b_Heap_freeUnreached 8 = .ok (.sipush 256, 3) := by decide +kernel
theorem d_Heap_freeUnreached_11 : decode b_Heap_freeUnreached 11 = .ok (.if_icmp .ge 42, 3) := by decide +kernel
theorem d_Heap_freeUnreached_14 : decode b_Heap_freeUnreached 14 = .ok (.aload_n 0, 1) := by decide +kernel
theorem d_Heap_freeUnreached_15 : decode b_Heap_freeUnreached 15 = .ok (.getfield 24, 3) := by decide +kernel
theorem d_Heap_freeUnreached_18 : decode b_Heap_freeUnreached 18 = .ok (.iload_n 1, 1) := by decide +kernel
theorem d_Heap_freeUnreached_19 : decode b_Heap_freeUnreached 19 = .ok (.iaload, 1) := by decide +kernel
theorem d_Heap_freeUnreached_20 : decode b_Heap_freeUnreached 20 = .ok (.aload_n 0, 1) := by decide +kernel
theorem d_Heap_freeUnreached_21 : decode b_Heap_freeUnreached 21 = .ok (.getfield 48, 3) := by decide +kernel
theorem d_Heap_freeUnreached_24 : decode b_Heap_freeUnreached 24 = .ok (.if_icmp .eq 23, 3) := by decide +kernel
theorem d_Heap_freeUnreached_27 : decode b_Heap_freeUnreached 27 = .ok (.aload_n 0, 1) := by decide +kernel
theorem d_Heap_freeUnreached_28 : decode b_Heap_freeUnreached 28 = .ok (.getfield 21, 3) := by decide +kernel
theorem d_Heap_freeUnreached_31 : decode b_Heap_freeUnreached 31 = .ok (.aload_n 0, 1) := by decide +kernel
theorem d_Heap_freeUnreached_32 : decode b_Heap_freeUnreached 32 = .ok (.getfield 36, 3) := by decide +kernel
theorem d_Heap_freeUnreached_35 : decode b_Heap_freeUnreached 35 = .ok (.iload_n 1, 1) := by decide +kernel
theorem d_Heap_freeUnreached_36 : decode b_Heap_freeUnreached 36 = .ok (.iastore, 1) := by decide +kernel
theorem d_Heap_freeUnreached_37 : decode b_Heap_freeUnreached 37 = .ok (.aload_n 0, 1) := by decide +kernel
theorem d_Heap_freeUnreached_38 : decode b_Heap_freeUnreached 38 = .ok (.dup, 1) := by decide +kernel
theorem d_Heap_freeUnreached_39 : decode b_Heap_freeUnreached 39 = .ok (.getfield 36, 3) := by decide +kernel
theorem d_Heap_freeUnreached_42 : decode b_Heap_freeUnreached 42 = .ok (.iconst 1, 1) := by decide +kernel
theorem d_Heap_freeUnreached_43 : decode b_Heap_freeUnreached 43 = .ok (.iadd, 1) := by decide +kernel
theorem d_Heap_freeUnreached_44 : decode b_Heap_freeUnreached 44 = .ok (.putfield 36, 3) := by decide +kernel
theorem d_Heap_freeUnreached_47 : decode b_Heap_freeUnreached 47 = .ok (.iinc 1 1, 3) := by decide +kernel
theorem d_Heap_freeUnreached_50 : decode b_Heap_freeUnreached 50 = .ok (.goto (-43), 3) := by decide +kernel
theorem d_Heap_freeUnreached_53 : decode b_Heap_freeUnreached 53 = .ok (.return_, 1) := by decide +kernel
theorem d_Heap_empty_0 : decode b_Heap_empty 0 = .ok (.aload_n 0, 1) := by decide +kernel
theorem d_Heap_empty_1 : decode b_Heap_empty 1 = .ok (.invokevirtual 30, 3) := by decide +kernel
theorem d_Heap_empty_4 : decode b_Heap_empty 4 = .ok (.aload_n 0, 1) := by decide +kernel
theorem d_Heap_empty_5 : decode b_Heap_empty 5 = .ok (.invokevirtual 33, 3) := by decide +kernel
theorem d_Heap_empty_8 : decode b_Heap_empty 8 = .ok (.return_, 1) := by decide +kernel
theorem d_Heap_boundTo_0 : decode b_Heap_boundTo 0 = .ok (.iload_n 1, 1) := by decide +kernel
theorem d_Heap_boundTo_1 : decode b_Heap_boundTo 1 = .ok (.istore_n 3, 1) := by decide +kernel
theorem d_Heap_boundTo_2 : decode b_Heap_boundTo 2 = .ok (.iconst 0, 1) := by decide +kernel
theorem d_Heap_boundTo_3 : decode b_Heap_boundTo 3 = .ok (.istore 4, 2) := by decide +kernel
theorem d_Heap_boundTo_5 : decode b_Heap_boundTo 5 = .ok (.iload 4, 2) := by decide +kernel
theorem d_Heap_boundTo_7 : decode b_Heap_boundTo 7 = .ok (.iload_n 2, 1) := by decide +kernel
theorem d_Heap_boundTo_8 : decode b_Heap_boundTo 8 = .ok (.if_icmp .ge 21, 3) := by decide +kernel
theorem d_Heap_boundTo_11 : decode b_Heap_boundTo 11 = .ok (.iload_n 3, 1) := by decide +kernel
theorem d_Heap_boundTo_12 : decode b_Heap_boundTo 12 = .ok (.iconst (-1), 1) := by decide +kernel
theorem d_Heap_boundTo_13 : decode b_Heap_boundTo 13 = .ok (.if_icmp .eq 16, 3) := by decide +kernel
theorem d_Heap_boundTo_16 : decode b_Heap_boundTo 16 = .ok (.aload_n 0, 1) := by decide +kernel
theorem d_Heap_boundTo_17 : decode b_Heap_boundTo 17 = .ok (.getfield 18, 3) := by decide +kernel
theorem d_Heap_boundTo_20 : decode b_Heap_boundTo 20 = .ok (.iload_n 3, 1) := by decide +kernel
theorem d_Heap_boundTo_21 : decode b_Heap_boundTo 21 = .ok (.iaload, 1) := by decide +kernel
theorem d_Heap_boundTo_22 : decode b_Heap_boundTo 22 = .ok (.istore_n 3, 1) := by decide +kernel
theorem d_Heap_boundTo_23 : decode b_Heap_boundTo 23 = .ok (.iinc 4 1, 3) := by decide +kernel
theorem d_Heap_boundTo_26 : decode b_Heap_boundTo 26 = .ok (.goto (-21), 3) := by decide +kernel
theorem d_Heap_boundTo_29 : decode b_Heap_boundTo 29 = .ok (.aload_n 0, 1) := by decide +kernel
theorem d_Heap_boundTo_30 : decode b_Heap_boundTo 30 = .ok (.iload_n 3, 1) := by decide +kernel
theorem d_Heap_boundTo_31 : decode b_Heap_boundTo 31 = .ok (.invokevirtual 44, 3) := by decide +kernel
theorem d_Heap_boundTo_34 : decode b_Heap_boundTo 34 = .ok (.ireturn, 1) := by decide +kernel
end
section
/-! What the class's own rows do, as functions of their contents: the heap. -/
/-- a cell, or none -/
def hp_c (x : Int32) : Prop := x = -1 ∨ vp_in x 256
abbrev h_st (S : ZHS) : Nat → Int32 := S.1
abbrev h_fi (S : ZHS) : Nat → Int32 := S.2.1
abbrev h_se (S : ZHS) : Nat → Int32 := S.2.2.1
abbrev h_fc (S : ZHS) : Nat → Int32 := S.2.2.2.1
abbrev h_mk (S : ZHS) : Nat → Int32 := S.2.2.2.2.1
abbrev h_re (S : ZHS) : Nat → Int32 := S.2.2.2.2.2.1
abbrev h_fr (S : ZHS) : Int32 := S.2.2.2.2.2.2.1
abbrev h_rd (S : ZHS) : Int32 := S.2.2.2.2.2.2.2.1
abbrev h_rc (S : ZHS) : Int32 := S.2.2.2.2.2.2.2.2
def hp_state (S : ZHS) (x : Int32) : Int32 := if x = -1 then 4 else h_st S x.toNatClampNeg
def hp_first (S : ZHS) (x : Int32) : Int32 := if x = -1 then -1 else h_fi S x.toNatClampNeg
def hp_second (S : ZHS) (x : Int32) : Int32 := if x = -1 then -1 else h_se S x.toNatClampNeg
def hp_become (S : ZHS) (x a b c : Int32) : ZHS := if x = -1 then S else (upd (h_st S) x.toNatClampNeg a, upd (h_fi S) x.toNatClampNeg b, upd (h_se S) x.toNatClampNeg c, S.2.2.2)
def hp_setfr (S : ZHS) (f : Int32) : ZHS := (h_st S, h_fi S, h_se S, h_fc S, h_mk S, h_re S, f, h_rd S, h_rc S)
def hp_take (S : ZHS) (a b c : Int32) : Int32 × ZHS := if h_fr S = 0 then (-1, S) else (h_fc S (h_fr S - 1).toNatClampNeg, hp_become (hp_setfr S (h_fr S - 1)) (h_fc S (h_fr S - 1).toNatClampNeg) a b c)
def hp_begin (S : ZHS) : ZHS := (h_st S, h_fi S, h_se S, h_fc S, h_mk S, h_re S, h_fr S, h_rd S + 1, 0)
def hp_reach (S : ZHS) (x : Int32) : ZHS := if x = -1 then S else if h_mk S x.toNatClampNeg = h_rd S then S else (h_st S, h_fi S, h_se S, h_fc S, upd (h_mk S) x.toNatClampNeg (h_rd S), upd (h_re S) (h_rc S).toNatClampNeg x, h_fr S, h_rd S, h_rc S + 1)
def hp_from (S : ZHS) (a b c : Int32) : ZHS := if a = 5 then hp_reach (hp_reach S b) c else if a = 2 then hp_reach (hp_reach S b) c else if a = 3 then hp_reach S c else if a = 1 then hp_reach S c else S
def hp_spreadN : Nat → Nat → ZHS → ZHS
  | 0, _, Z => Z
  | n + 1, k, Z => if h_rc Z ≤ nI k then Z else hp_spreadN n (k + 1) (hp_from Z (h_st Z (h_re Z k).toNatClampNeg) (h_fi Z (h_re Z k).toNatClampNeg) (h_se Z (h_re Z k).toNatClampNeg))
termination_by n => n
def hp_spread (S : ZHS) : ZHS := hp_spreadN 256 0 S
def hp_sweepN : Nat → Nat → ZHS → ZHS
  | 0, _, Z => Z
  | n + 1, k, Z => hp_sweepN n (k + 1) (if h_mk Z k = h_rd Z then Z else (h_st Z, h_fi Z, h_se Z, upd (h_fc Z) (h_fr Z).toNatClampNeg (nI k), h_mk Z, h_re Z, h_fr Z + 1, h_rd Z, h_rc Z))
termination_by n => n
def hp_sweep (S : ZHS) : ZHS := hp_sweepN 256 0 (hp_setfr S 0)
def hp_walk (se : Nat → Int32) : Nat → Int32 → Int32
  | 0, k => k
  | n + 1, k => if k = -1 then k else hp_walk se n (se k.toNatClampNeg)
def hp_bound (S : ZHS) (env x : Int32) : Int32 := hp_first S (hp_walk (h_se S) x.toNatClampNeg env)
/-- the row of reached cells: different ones, all marked -/
def hp_mk (Z : ZHS) : Prop := ∃ k : Nat, k ≤ 256 ∧ h_rc Z = nI k ∧ (∀ i, i < k → vp_in (h_re Z i) 256 ∧ h_mk Z (h_re Z i).toNatClampNeg = h_rd Z) ∧ ∀ i j, i < k → j < k → h_re Z i = h_re Z j → i = j
/-- what leads on from a cell is a cell or none -/
def hp_ok (Z : ZHS) : Prop := ∀ j, j < 256 → (h_st Z j = 5 ∨ h_st Z j = 2 → hp_c (h_fi Z j)) ∧ hp_c (h_se Z j)
/-- the free cells -/
def hp_fok (Z : ZHS) : Prop := ∃ f : Nat, f ≤ 256 ∧ h_fr Z = nI f ∧ ∀ j, j < f → vp_in (h_fc Z j) 256
theorem hp_pigeon : ∀ (n : Nat) (f : Nat → Nat), (∀ i, i < n → f i < n) → (∀ i j, i < n → j < n → f i = f j → i = j) → ∀ y, y < n → ∃ i, i < n ∧ f i = y := by
  intro n
  induction n with
  | zero => intro f _ _ y hy; omega
  | succ n ih =>
    intro f hf hi y hy
    have hg1 : ∀ i, i < n → (if f i = n then f n else f i) < n := by
      intro i h
      by_cases h1 : f i = n
      · rw [if_pos h1]
        have h2 := hf n (by omega)
        have h3 : f n ≠ n := fun q => by
          have := hi i n (by omega) (by omega) (h1.trans q.symm)
          omega
        omega
      · rw [if_neg h1]
        have h2 := hf i (by omega)
        omega
    have hg2 : ∀ i j, i < n → j < n → (if f i = n then f n else f i) = (if f j = n then f n else f j) → i = j := by
      intro i j h1 h2 h3
      by_cases h4 : f i = n <;> by_cases h5 : f j = n
      · exact hi i j (by omega) (by omega) (h4.trans h5.symm)
      · rw [if_pos h4, if_neg h5] at h3
        have := hi n j (by omega) (by omega) h3
        omega
      · rw [if_neg h4, if_pos h5] at h3
        have := hi i n (by omega) (by omega) h3
        omega
      · rw [if_neg h4, if_neg h5] at h3
        exact hi i j (by omega) (by omega) h3
    have hs := ih (fun i => if f i = n then f n else f i) hg1 hg2
    by_cases hyn : y = n
    · by_cases h1 : f n = n
      · exact ⟨n, by omega, by omega⟩
      · have h2 := hf n (by omega)
        obtain ⟨i, hin, hie⟩ := hs (f n) (by omega)
        by_cases h3 : f i = n
        · exact ⟨i, by omega, by omega⟩
        · simp only [if_neg h3] at hie
          have := hi i n (by omega) (by omega) hie
          omega
    · obtain ⟨i, hin, hie⟩ := hs y (by omega)
      by_cases h3 : f i = n
      · simp only [if_pos h3] at hie
        exact ⟨n, by omega, hie⟩
      · simp only [if_neg h3] at hie
        exact ⟨i, by omega, hie⟩
theorem hp_in_lt {x : Int32} {n : Nat} (h : vp_in x n) (hn : n < 2 ^ 31) : x.toNatClampNeg < n := by
  obtain ⟨j, hj, rfl⟩ := vp_in_of h hn
  rw [nI_clamp (by omega)]
  exact hj
theorem hp_in_inj {x y : Int32} {n : Nat} (hx : vp_in x n) (hy : vp_in y n) (hn : n < 2 ^ 31) (h : x.toNatClampNeg = y.toNatClampNeg) : x = y := by
  obtain ⟨i, hi, rfl⟩ := vp_in_of hx hn
  obtain ⟨j, hj, rfl⟩ := vp_in_of hy hn
  rw [nI_clamp (by omega), nI_clamp (by omega)] at h
  rw [h]
/-- a cell that isn't marked yet: there is room in the row -/
theorem hp_roomy {Z : ZHS} {x : Int32} (h : hp_mk Z) (hx : vp_in x 256) (hm : ¬ h_mk Z x.toNatClampNeg = h_rd Z) : ∃ k : Nat, k < 256 ∧ h_rc Z = nI k := by
  obtain ⟨k, hk, hrc, hre, hinj⟩ := h
  rcases Nat.lt_or_ge k 256 with h1 | h1
  · exact ⟨k, h1, hrc⟩
  · have hk6 : k = 256 := by omega
    subst hk6
    obtain ⟨i, hi, he⟩ := hp_pigeon 256 (fun i => (h_re Z i).toNatClampNeg) (fun i hi => hp_in_lt (hre i hi).1 (by decide)) (fun i j hi hj e => hinj i j hi hj (hp_in_inj (hre i hi).1 (hre j hj).1 (by decide) e)) x.toNatClampNeg (hp_in_lt hx (by decide))
    exact absurd (by have := (hre i hi).2; rw [show (h_re Z i).toNatClampNeg = x.toNatClampNeg from he] at this; exact this) hm
theorem hp_mk_reach {Z : ZHS} {x : Int32} (h : hp_mk Z) (hx : hp_c x) : hp_mk (hp_reach Z x) := by
  unfold hp_reach
  by_cases h1 : x = -1
  · rw [if_pos h1]; exact h
  · rw [if_neg h1]
    by_cases h2 : h_mk Z x.toNatClampNeg = h_rd Z
    · rw [if_pos h2]; exact h
    · rw [if_neg h2]
      have hx := hx.resolve_left h1
      obtain ⟨k0, hk0, hrc0⟩ := hp_roomy h hx h2
      obtain ⟨k, hk, hrc, hre, hinj⟩ := h
      have hkk : k = k0 := (nI_eq (by omega) (by omega)).mp (hrc.symm.trans hrc0)
      subst hkk
      refine ⟨k + 1, by omega, ?_, ?_, ?_⟩
      · show h_rc Z + 1 = nI (k + 1)
        rw [hrc]; exact (nI_succ k).symm
      · intro i hi
        show vp_in (upd (h_re Z) (h_rc Z).toNatClampNeg x i) 256 ∧ upd (h_mk Z) x.toNatClampNeg (h_rd Z) (upd (h_re Z) (h_rc Z).toNatClampNeg x i).toNatClampNeg = h_rd Z
        rw [hrc, nI_clamp (by omega)]
        by_cases hik : i = k
        · subst hik; rw [pk_us]; exact ⟨hx, pk_us⟩
        · rw [pk_un hik]
          refine ⟨(hre i (by omega)).1, ?_⟩
          unfold upd
          by_cases h3 : (h_re Z i).toNatClampNeg = x.toNatClampNeg
          · rw [if_pos h3]
          · rw [if_neg h3]; exact (hre i (by omega)).2
      · intro i j hi hj
        show upd (h_re Z) (h_rc Z).toNatClampNeg x i = upd (h_re Z) (h_rc Z).toNatClampNeg x j → i = j
        rw [hrc, nI_clamp (by omega)]
        intro e
        by_cases hik : i = k <;> by_cases hjk : j = k
        · omega
        · subst hik; rw [pk_us, pk_un hjk] at e
          exact absurd (by rw [e]; exact (hre j (by omega)).2) h2
        · subst hjk; rw [pk_us, pk_un hik] at e
          exact absurd (by rw [← e]; exact (hre i (by omega)).2) h2
        · rw [pk_un hik, pk_un hjk] at e
          exact hinj i j (by omega) (by omega) e
theorem hp_mk_from {Z : ZHS} {a b c : Int32} (h : hp_mk Z) (hb : a = 5 ∨ a = 2 → hp_c b) (hc : hp_c c) : hp_mk (hp_from Z a b c) := by
  unfold hp_from
  by_cases h1 : a = 5
  · rw [if_pos h1]; exact hp_mk_reach (hp_mk_reach h (hb (Or.inl h1))) hc
  · rw [if_neg h1]
    by_cases h2 : a = 2
    · rw [if_pos h2]; exact hp_mk_reach (hp_mk_reach h (hb (Or.inr h2))) hc
    · rw [if_neg h2]
      by_cases h3 : a = 3
      · rw [if_pos h3]; exact hp_mk_reach h hc
      · rw [if_neg h3]
        by_cases h4 : a = 1
        · rw [if_pos h4]; exact hp_mk_reach h hc
        · rw [if_neg h4]; exact h
/-- marking changes the marks and the row alone -/
theorem hp_reach_fix (Z : ZHS) (x : Int32) : h_st (hp_reach Z x) = h_st Z ∧ h_fi (hp_reach Z x) = h_fi Z ∧ h_se (hp_reach Z x) = h_se Z ∧ h_fc (hp_reach Z x) = h_fc Z ∧ h_fr (hp_reach Z x) = h_fr Z ∧ h_rd (hp_reach Z x) = h_rd Z := by
  unfold hp_reach
  by_cases h1 : x = -1
  · rw [if_pos h1]; exact ⟨rfl, rfl, rfl, rfl, rfl, rfl⟩
  · rw [if_neg h1]
    by_cases h2 : h_mk Z x.toNatClampNeg = h_rd Z
    · rw [if_pos h2]; exact ⟨rfl, rfl, rfl, rfl, rfl, rfl⟩
    · rw [if_neg h2]; exact ⟨rfl, rfl, rfl, rfl, rfl, rfl⟩
theorem hp_from_fix (Z : ZHS) (a b c : Int32) : h_st (hp_from Z a b c) = h_st Z ∧ h_fi (hp_from Z a b c) = h_fi Z ∧ h_se (hp_from Z a b c) = h_se Z ∧ h_fc (hp_from Z a b c) = h_fc Z ∧ h_fr (hp_from Z a b c) = h_fr Z ∧ h_rd (hp_from Z a b c) = h_rd Z := by
  have h1 := hp_reach_fix Z c
  have h2 := hp_reach_fix (hp_reach Z b) c
  have h3 := hp_reach_fix Z b
  have h4 : h_st (hp_reach (hp_reach Z b) c) = h_st Z ∧ h_fi (hp_reach (hp_reach Z b) c) = h_fi Z ∧ h_se (hp_reach (hp_reach Z b) c) = h_se Z ∧ h_fc (hp_reach (hp_reach Z b) c) = h_fc Z ∧ h_fr (hp_reach (hp_reach Z b) c) = h_fr Z ∧ h_rd (hp_reach (hp_reach Z b) c) = h_rd Z :=
    ⟨h2.1.trans h3.1, h2.2.1.trans h3.2.1, h2.2.2.1.trans h3.2.2.1, h2.2.2.2.1.trans h3.2.2.2.1, h2.2.2.2.2.1.trans h3.2.2.2.2.1, h2.2.2.2.2.2.trans h3.2.2.2.2.2⟩
  unfold hp_from
  by_cases q1 : a = 5
  · rw [if_pos q1]; exact h4
  · rw [if_neg q1]
    by_cases q2 : a = 2
    · rw [if_pos q2]; exact h4
    · rw [if_neg q2]
      by_cases q3 : a = 3
      · rw [if_pos q3]; exact h1
      · rw [if_neg q3]
        by_cases q4 : a = 1
        · rw [if_pos q4]; exact h1
        · rw [if_neg q4]; exact ⟨rfl, rfl, rfl, rfl, rfl, rfl⟩
theorem hp_ok_from {Z : ZHS} {a b c : Int32} (h : hp_ok Z) : hp_ok (hp_from Z a b c) := by
  obtain ⟨h1, h2, h3, -⟩ := hp_from_fix Z a b c
  intro j hj
  rw [h1, h2, h3]
  exact h j hj
end
section
set_option maxHeartbeats 4000000 in
set_option maxRecDepth 100000 in
theorem c_Heap_free (l : Launch) (dC : Nat → ClassId) (dI : Nat → Nat → Nat) (cA : ClassId)  (ad : Nat → Nat) (sz : Nat) (S : ZHS)   : Met l y_Heap_free w_Heap_free ({ frames := 0, cells := 0, slots := 0, locals := 0 } : Room) (va_Pc [.ref (ad 0)] (lm_pre (dC, dI) classes [(cA, .int)] (hp_W cA ad S) sz lm_no)) (va_Qi (fun (r : Int32) (u : ZHS) => r = h_fr S ∧ u = S) (fun u => lm_at (dC, dI) classes [(cA, .int)] (va_A (hp_W cA ad S) sz) (hp_W cA ad u)) (va_A (hp_W cA ad S) sz)) 0 0 (va_A (hp_W cA ad S) sz) := by
  obtain ⟨st, fi, se, fc, mk, re, fr, rd, rc⟩ := S
  refine lm_met (fun A => va_Qi (fun (r : Int32) (u : ZHS) => r = h_fr (st, fi, se, fc, mk, re, fr, rd, rc) ∧ u = (st, fi, se, fc, mk, re, fr, rd, rc)) (fun u => lm_at (dC, dI) classes [(cA, .int)] A (hp_W cA ad u)) A) (by decide) rfl (Nat.le_of_ble_eq_true rfl) ?_
  intro p e s m below meth c A hx hb hr hts hown hlocks hname hml hK hP hD hA hE hsz hAe hS ls hl
  replace hl : lv_has ls 1 [(0, .ref (ad 0))] := hl
  clear hAe hsz
  refine lv_aload_n hx hb d_Heap_free_0 rfl (lv_at hl 0 rfl) ?_
  refine va_get (D := (dC, dI)) (ci := 1) (v := .int fr) (C := R_Heap) (T := F_Heap) (N := 9) hx hb hts (fun q hq => List.mem_cons_of_mem _ (i_Heap q hq)) hown hK hP 0 rfl rfl 6 (by decide) (hts _ (List.mem_cons_of_mem _ m_1_3)) (fun _ h9 => h9) rfl d_Heap_free_1 ?_
  refine lm_ri (v := fr) hx hb hr hlocks (st, fi, se, fc, mk, re, fr, rd, rc) ?_ hP hK hD hS d_Heap_free_4
  exact ⟨rfl, rfl⟩
set_option maxHeartbeats 4000000 in
set_option maxRecDepth 100000 in
theorem c_Heap_state (l : Launch) (dC : Nat → ClassId) (dI : Nat → Nat → Nat) (cA : ClassId)  (ad : Nat → Nat) (sz : Nat) (S : ZHS) (x : Int32) (hx1 : hp_c x) : Met l y_Heap_state w_Heap_state ({ frames := 0, cells := 0, slots := 0, locals := 0 } : Room) (va_Pc [.ref (ad 0), .int x] (lm_pre (dC, dI) classes [(cA, .int)] (hp_W cA ad S) sz lm_no)) (va_Qi (fun (r : Int32) (u : ZHS) => r = hp_state S x ∧ u = S) (fun u => lm_at (dC, dI) classes [(cA, .int)] (va_A (hp_W cA ad S) sz) (hp_W cA ad u)) (va_A (hp_W cA ad S) sz)) 0 0 (va_A (hp_W cA ad S) sz) := by
  obtain ⟨st, fi, se, fc, mk, re, fr, rd, rc⟩ := S
  refine lm_met (fun A => va_Qi (fun (r : Int32) (u : ZHS) => r = hp_state (st, fi, se, fc, mk, re, fr, rd, rc) x ∧ u = (st, fi, se, fc, mk, re, fr, rd, rc)) (fun u => lm_at (dC, dI) classes [(cA, .int)] A (hp_W cA ad u)) A) (by decide) rfl (Nat.le_of_ble_eq_true rfl) ?_
  intro p e s m below meth c A hx hb hr hts hown hlocks hname hml hK hP hD hA hE hsz hAe hS ls hl
  replace hl : lv_has ls 2 [(0, .ref (ad 0)), (1, .int x)] := hl
  clear hAe hsz
  refine lv_iload_n hx hb d_Heap_state_0 rfl (lv_at hl 1 rfl) ?_
  refine lv_iconst (v := -1) hx hb d_Heap_state_1 (by decide) ?_
  refine lv_icmp_ne hx hb d_Heap_state_2 rfl (fun h2 => ?_) (fun h2 => ?_)
  · refine lv_aload_n hx hb d_Heap_state_9 rfl (lv_at hl 0 rfl) ?_
    refine va_get (D := (dC, dI)) (ci := 1) (v := .ref (ad 1)) (C := R_Heap) (T := F_Heap) (N := 9) hx hb hts (fun q hq => List.mem_cons_of_mem _ (i_Heap q hq)) hown hK hP 0 rfl rfl 0 (by decide) (hts _ (List.mem_cons_of_mem _ m_0_21)) (fun _ h9 => h9) rfl d_Heap_state_10 ?_
    refine lv_iload_n hx hb d_Heap_state_13 rfl (lv_at hl 1 rfl) ?_
    have hin : vp_in x 256 := by exact hx1.resolve_left h2
    refine va_iald (f := st) (n := 256) hx hb hK hP 1 0 rfl rfl hin d_Heap_state_14 ?_
    refine lm_ri (v := (st x.toNatClampNeg)) hx hb hr hlocks (st, fi, se, fc, mk, re, fr, rd, rc) ?_ hP hK hD hS d_Heap_state_15
    simp [hp_state, h_st, h_fi, h_se, h_fc, h_mk, h_re, h_fr, h_rd, h_rc, h2]
  · refine lv_iconst (v := 4) hx hb d_Heap_state_5 (by decide) ?_
    refine lv_goto hx hb d_Heap_state_6 rfl ?_
    refine lm_ri (v := 4) hx hb hr hlocks (st, fi, se, fc, mk, re, fr, rd, rc) ?_ hP hK hD hS d_Heap_state_15
    simp [hp_state, h_st, h_fi, h_se, h_fc, h_mk, h_re, h_fr, h_rd, h_rc, h2]
set_option maxHeartbeats 4000000 in
set_option maxRecDepth 100000 in
theorem c_Heap_first (l : Launch) (dC : Nat → ClassId) (dI : Nat → Nat → Nat) (cA : ClassId)  (ad : Nat → Nat) (sz : Nat) (S : ZHS) (x : Int32) (hx1 : hp_c x) : Met l y_Heap_first w_Heap_first ({ frames := 0, cells := 0, slots := 0, locals := 0 } : Room) (va_Pc [.ref (ad 0), .int x] (lm_pre (dC, dI) classes [(cA, .int)] (hp_W cA ad S) sz lm_no)) (va_Qi (fun (r : Int32) (u : ZHS) => r = hp_first S x ∧ u = S) (fun u => lm_at (dC, dI) classes [(cA, .int)] (va_A (hp_W cA ad S) sz) (hp_W cA ad u)) (va_A (hp_W cA ad S) sz)) 0 0 (va_A (hp_W cA ad S) sz) := by
  obtain ⟨st, fi, se, fc, mk, re, fr, rd, rc⟩ := S
  refine lm_met (fun A => va_Qi (fun (r : Int32) (u : ZHS) => r = hp_first (st, fi, se, fc, mk, re, fr, rd, rc) x ∧ u = (st, fi, se, fc, mk, re, fr, rd, rc)) (fun u => lm_at (dC, dI) classes [(cA, .int)] A (hp_W cA ad u)) A) (by decide) rfl (Nat.le_of_ble_eq_true rfl) ?_
  intro p e s m below meth c A hx hb hr hts hown hlocks hname hml hK hP hD hA hE hsz hAe hS ls hl
  replace hl : lv_has ls 2 [(0, .ref (ad 0)), (1, .int x)] := hl
  clear hAe hsz
  refine lv_iload_n hx hb d_Heap_first_0 rfl (lv_at hl 1 rfl) ?_
  refine lv_iconst (v := -1) hx hb d_Heap_first_1 (by decide) ?_
  refine lv_icmp_ne hx hb d_Heap_first_2 rfl (fun h2 => ?_) (fun h2 => ?_)
  · refine lv_aload_n hx hb d_Heap_first_9 rfl (lv_at hl 0 rfl) ?_
    refine va_get (D := (dC, dI)) (ci := 1) (v := .ref (ad 2)) (C := R_Heap) (T := F_Heap) (N := 9) hx hb hts (fun q hq => List.mem_cons_of_mem _ (i_Heap q hq)) hown hK hP 0 rfl rfl 1 (by decide) (hts _ (List.mem_cons_of_mem _ m_0_22)) (fun _ h9 => h9) rfl d_Heap_first_10 ?_
    refine lv_iload_n hx hb d_Heap_first_13 rfl (lv_at hl 1 rfl) ?_
    have hin : vp_in x 256 := by exact hx1.resolve_left h2
    refine va_iald (f := fi) (n := 256) hx hb hK hP 2 0 rfl rfl hin d_Heap_first_14 ?_
    refine lm_ri (v := (fi x.toNatClampNeg)) hx hb hr hlocks (st, fi, se, fc, mk, re, fr, rd, rc) ?_ hP hK hD hS d_Heap_first_15
    simp [hp_first, h_st, h_fi, h_se, h_fc, h_mk, h_re, h_fr, h_rd, h_rc, h2]
  · refine lv_iconst (v := -1) hx hb d_Heap_first_5 (by decide) ?_
    refine lv_goto hx hb d_Heap_first_6 rfl ?_
    refine lm_ri (v := (-1)) hx hb hr hlocks (st, fi, se, fc, mk, re, fr, rd, rc) ?_ hP hK hD hS d_Heap_first_15
    simp [hp_first, h_st, h_fi, h_se, h_fc, h_mk, h_re, h_fr, h_rd, h_rc, h2]
set_option maxHeartbeats 4000000 in
set_option maxRecDepth 100000 in
theorem c_Heap_second (l : Launch) (dC : Nat → ClassId) (dI : Nat → Nat → Nat) (cA : ClassId)  (ad : Nat → Nat) (sz : Nat) (S : ZHS) (x : Int32) (hx1 : hp_c x) : Met l y_Heap_second w_Heap_second ({ frames := 0, cells := 0, slots := 0, locals := 0 } : Room) (va_Pc [.ref (ad 0), .int x] (lm_pre (dC, dI) classes [(cA, .int)] (hp_W cA ad S) sz lm_no)) (va_Qi (fun (r : Int32) (u : ZHS) => r = hp_second S x ∧ u = S) (fun u => lm_at (dC, dI) classes [(cA, .int)] (va_A (hp_W cA ad S) sz) (hp_W cA ad u)) (va_A (hp_W cA ad S) sz)) 0 0 (va_A (hp_W cA ad S) sz) := by
  obtain ⟨st, fi, se, fc, mk, re, fr, rd, rc⟩ := S
  refine lm_met (fun A => va_Qi (fun (r : Int32) (u : ZHS) => r = hp_second (st, fi, se, fc, mk, re, fr, rd, rc) x ∧ u = (st, fi, se, fc, mk, re, fr, rd, rc)) (fun u => lm_at (dC, dI) classes [(cA, .int)] A (hp_W cA ad u)) A) (by decide) rfl (Nat.le_of_ble_eq_true rfl) ?_
  intro p e s m below meth c A hx hb hr hts hown hlocks hname hml hK hP hD hA hE hsz hAe hS ls hl
  replace hl : lv_has ls 2 [(0, .ref (ad 0)), (1, .int x)] := hl
  clear hAe hsz
  refine lv_iload_n hx hb d_Heap_second_0 rfl (lv_at hl 1 rfl) ?_
  refine lv_iconst (v := -1) hx hb d_Heap_second_1 (by decide) ?_
  refine lv_icmp_ne hx hb d_Heap_second_2 rfl (fun h2 => ?_) (fun h2 => ?_)
  · refine lv_aload_n hx hb d_Heap_second_9 rfl (lv_at hl 0 rfl) ?_
    refine va_get (D := (dC, dI)) (ci := 1) (v := .ref (ad 3)) (C := R_Heap) (T := F_Heap) (N := 9) hx hb hts (fun q hq => List.mem_cons_of_mem _ (i_Heap q hq)) hown hK hP 0 rfl rfl 2 (by decide) (hts _ (List.mem_cons_of_mem _ m_0_23)) (fun _ h9 => h9) rfl d_Heap_second_10 ?_
    refine lv_iload_n hx hb d_Heap_second_13 rfl (lv_at hl 1 rfl) ?_
    have hin : vp_in x 256 := by exact hx1.resolve_left h2
    refine va_iald (f := se) (n := 256) hx hb hK hP 3 0 rfl rfl hin d_Heap_second_14 ?_
    refine lm_ri (v := (se x.toNatClampNeg)) hx hb hr hlocks (st, fi, se, fc, mk, re, fr, rd, rc) ?_ hP hK hD hS d_Heap_second_15
    simp [hp_second, h_st, h_fi, h_se, h_fc, h_mk, h_re, h_fr, h_rd, h_rc, h2]
  · refine lv_iconst (v := -1) hx hb d_Heap_second_5 (by decide) ?_
    refine lv_goto hx hb d_Heap_second_6 rfl ?_
    refine lm_ri (v := (-1)) hx hb hr hlocks (st, fi, se, fc, mk, re, fr, rd, rc) ?_ hP hK hD hS d_Heap_second_15
    simp [hp_second, h_st, h_fi, h_se, h_fc, h_mk, h_re, h_fr, h_rd, h_rc, h2]
set_option maxHeartbeats 4000000 in
set_option maxRecDepth 100000 in
theorem c_Heap_become (l : Launch) (dC : Nat → ClassId) (dI : Nat → Nat → Nat) (cA : ClassId)  (ad : Nat → Nat) (sz : Nat) (S : ZHS) (x y1 y2 y3 : Int32) (hx1 : hp_c x) : Met l y_Heap_become w_Heap_become ({ frames := 0, cells := 0, slots := 0, locals := 0 } : Room) (va_Pc [.ref (ad 0), .int x, .int y1, .int y2, .int y3] (lm_pre (dC, dI) classes [(cA, .int)] (hp_W cA ad S) sz lm_no)) (va_Qv (fun (u : ZHS) => u = hp_become S x y1 y2 y3) (fun u => lm_at (dC, dI) classes [(cA, .int)] (va_A (hp_W cA ad S) sz) (hp_W cA ad u)) (va_A (hp_W cA ad S) sz)) 0 0 (va_A (hp_W cA ad S) sz) := by
  obtain ⟨st, fi, se, fc, mk, re, fr, rd, rc⟩ := S
  refine lm_met (fun A => va_Qv (fun (u : ZHS) => u = hp_become (st, fi, se, fc, mk, re, fr, rd, rc) x y1 y2 y3) (fun u => lm_at (dC, dI) classes [(cA, .int)] A (hp_W cA ad u)) A) (by decide) rfl (Nat.le_of_ble_eq_true rfl) ?_
  intro p e s m below meth c A hx hb hr hts hown hlocks hname hml hK hP hD hA hE hsz hAe hS ls hl
  replace hl : lv_has ls 5 [(0, .ref (ad 0)), (1, .int x), (2, .int y1), (3, .int y2), (4, .int y3)] := hl
  clear hAe hsz
  refine lv_iload_n hx hb d_Heap_become_0 rfl (lv_at hl 1 rfl) ?_
  refine lv_iconst (v := -1) hx hb d_Heap_become_1 (by decide) ?_
  refine lv_icmp_ne hx hb d_Heap_become_2 rfl (fun h2 => ?_) (fun h2 => ?_)
  · refine lv_aload_n hx hb d_Heap_become_6 rfl (lv_at hl 0 rfl) ?_
    refine va_get (D := (dC, dI)) (ci := 1) (v := .ref (ad 1)) (C := R_Heap) (T := F_Heap) (N := 9) hx hb hts (fun q hq => List.mem_cons_of_mem _ (i_Heap q hq)) hown hK hP 0 rfl rfl 0 (by decide) (hts _ (List.mem_cons_of_mem _ m_0_21)) (fun _ h9 => h9) rfl d_Heap_become_7 ?_
    refine lv_iload_n hx hb d_Heap_become_10 rfl (lv_at hl 1 rfl) ?_
    refine lv_iload_n hx hb d_Heap_become_11 rfl (lv_at hl 2 rfl) ?_
    have hin : vp_in x 256 := by exact hx1.resolve_left h2
    refine va_iast (f := st) (n := 256) hx hb hK hP hD hS 1 0 rfl rfl hin d_Heap_become_12 (fun H locs hP hD hS => ?_)
    have hP : va_P (dC, dI) classes (hp_W cA ad ((upd st x.toNatClampNeg y1), fi, se, fc, mk, re, fr, rd, rc)) H := hP
    have hD : va_D A (hp_W cA ad ((upd st x.toNatClampNeg y1), fi, se, fc, mk, re, fr, rd, rc)) := hD
    refine lv_aload_n hx hb d_Heap_become_13 rfl (lv_at hl 0 rfl) ?_
    refine va_get (D := (dC, dI)) (ci := 1) (v := .ref (ad 2)) (C := R_Heap) (T := F_Heap) (N := 9) hx hb hts (fun q hq => List.mem_cons_of_mem _ (i_Heap q hq)) hown hK hP 0 rfl rfl 1 (by decide) (hts _ (List.mem_cons_of_mem _ m_0_22)) (fun _ h9 => h9) rfl d_Heap_become_14 ?_
    refine lv_iload_n hx hb d_Heap_become_17 rfl (lv_at hl 1 rfl) ?_
    refine lv_iload_n hx hb d_Heap_become_18 rfl (lv_at hl 3 rfl) ?_
    have hin : vp_in x 256 := by exact hx1.resolve_left h2
    refine va_iast (f := fi) (n := 256) hx hb hK hP hD hS 2 0 rfl rfl hin d_Heap_become_19 (fun H locs hP hD hS => ?_)
    have hP : va_P (dC, dI) classes (hp_W cA ad ((upd st x.toNatClampNeg y1), (upd fi x.toNatClampNeg y2), se, fc, mk, re, fr, rd, rc)) H := hP
    have hD : va_D A (hp_W cA ad ((upd st x.toNatClampNeg y1), (upd fi x.toNatClampNeg y2), se, fc, mk, re, fr, rd, rc)) := hD
    refine lv_aload_n hx hb d_Heap_become_20 rfl (lv_at hl 0 rfl) ?_
    refine va_get (D := (dC, dI)) (ci := 1) (v := .ref (ad 3)) (C := R_Heap) (T := F_Heap) (N := 9) hx hb hts (fun q hq => List.mem_cons_of_mem _ (i_Heap q hq)) hown hK hP 0 rfl rfl 2 (by decide) (hts _ (List.mem_cons_of_mem _ m_0_23)) (fun _ h9 => h9) rfl d_Heap_become_21 ?_
    refine lv_iload_n hx hb d_Heap_become_24 rfl (lv_at hl 1 rfl) ?_
    refine lv_iload hx hb d_Heap_become_25 (lv_at hl 4 rfl) ?_
    have hin : vp_in x 256 := by exact hx1.resolve_left h2
    refine va_iast (f := se) (n := 256) hx hb hK hP hD hS 3 0 rfl rfl hin d_Heap_become_27 (fun H locs hP hD hS => ?_)
    have hP : va_P (dC, dI) classes (hp_W cA ad ((upd st x.toNatClampNeg y1), (upd fi x.toNatClampNeg y2), (upd se x.toNatClampNeg y3), fc, mk, re, fr, rd, rc)) H := hP
    have hD : va_D A (hp_W cA ad ((upd st x.toNatClampNeg y1), (upd fi x.toNatClampNeg y2), (upd se x.toNatClampNeg y3), fc, mk, re, fr, rd, rc)) := hD
    refine lm_rv hx hb hr hlocks ((upd st x.toNatClampNeg y1), (upd fi x.toNatClampNeg y2), (upd se x.toNatClampNeg y3), fc, mk, re, fr, rd, rc) ?_ hP hK hD hS d_Heap_become_28
    simp [hp_become, h_st, h_fi, h_se, h_fc, h_mk, h_re, h_fr, h_rd, h_rc, h2]
  · refine lm_rv hx hb hr hlocks (st, fi, se, fc, mk, re, fr, rd, rc) ?_ hP hK hD hS d_Heap_become_5
    simp [hp_become, h_st, h_fi, h_se, h_fc, h_mk, h_re, h_fr, h_rd, h_rc, h2]
set_option maxHeartbeats 4000000 in
set_option maxRecDepth 100000 in
theorem c_Heap_beginMarks (l : Launch) (dC : Nat → ClassId) (dI : Nat → Nat → Nat) (cA : ClassId)  (ad : Nat → Nat) (sz : Nat) (S : ZHS)   : Met l y_Heap_beginMarks w_Heap_beginMarks ({ frames := 0, cells := 0, slots := 0, locals := 0 } : Room) (va_Pc [.ref (ad 0)] (lm_pre (dC, dI) classes [(cA, .int)] (hp_W cA ad S) sz lm_no)) (va_Qv (fun (u : ZHS) => u = hp_begin S) (fun u => lm_at (dC, dI) classes [(cA, .int)] (va_A (hp_W cA ad S) sz) (hp_W cA ad u)) (va_A (hp_W cA ad S) sz)) 0 0 (va_A (hp_W cA ad S) sz) := by
  obtain ⟨st, fi, se, fc, mk, re, fr, rd, rc⟩ := S
  refine lm_met (fun A => va_Qv (fun (u : ZHS) => u = hp_begin (st, fi, se, fc, mk, re, fr, rd, rc)) (fun u => lm_at (dC, dI) classes [(cA, .int)] A (hp_W cA ad u)) A) (by decide) rfl (Nat.le_of_ble_eq_true rfl) ?_
  intro p e s m below meth c A hx hb hr hts hown hlocks hname hml hK hP hD hA hE hsz hAe hS ls hl
  replace hl : lv_has ls 1 [(0, .ref (ad 0))] := hl
  clear hAe hsz
  refine lv_aload_n hx hb d_Heap_beginMarks_0 rfl (lv_at hl 0 rfl) ?_
  refine lv_dup hx hb d_Heap_beginMarks_1 rfl ?_
  refine va_get (D := (dC, dI)) (ci := 1) (v := .int rd) (C := R_Heap) (T := F_Heap) (N := 9) hx hb hts (fun q hq => List.mem_cons_of_mem _ (i_Heap q hq)) hown hK hP 0 rfl rfl 7 (by decide) (hts _ (List.mem_cons_of_mem _ m_1_4)) (fun _ h9 => h9) rfl d_Heap_beginMarks_2 ?_
  refine lv_iconst (v := 1) hx hb d_Heap_beginMarks_5 (by decide) ?_
  refine lv_iadd hx hb d_Heap_beginMarks_6 ?_
  refine va_put (D := (dC, dI)) (ci := 1) (v := .int (rd + 1)) (ty := .int) (C := R_Heap) (T := F_Heap) (N := 9) hx hb hts (fun q hq => List.mem_cons_of_mem _ (i_Heap q hq)) t_Heap t_Heap_ok n_Heap hown hK hP hD hS 0 rfl rfl 7 (by decide) (hts _ (List.mem_cons_of_mem _ m_1_4)) (fun _ h9 => h9) rfl (by decide +kernel) rfl rfl (Nat.le_of_ble_eq_true rfl) d_Heap_beginMarks_7 (fun H locs hP hD hS => ?_)
  have hP : va_P (dC, dI) classes (hp_W cA ad (st, fi, se, fc, mk, re, fr, (rd + 1), rc)) H := hP
  have hD : va_D A (hp_W cA ad (st, fi, se, fc, mk, re, fr, (rd + 1), rc)) := hD
  refine lv_aload_n hx hb d_Heap_beginMarks_10 rfl (lv_at hl 0 rfl) ?_
  refine lv_iconst (v := 0) hx hb d_Heap_beginMarks_11 (by decide) ?_
  refine va_put (D := (dC, dI)) (ci := 1) (v := .int 0) (ty := .int) (C := R_Heap) (T := F_Heap) (N := 9) hx hb hts (fun q hq => List.mem_cons_of_mem _ (i_Heap q hq)) t_Heap t_Heap_ok n_Heap hown hK hP hD hS 0 rfl rfl 8 (by decide) (hts _ (List.mem_cons_of_mem _ m_1_5)) (fun _ h9 => h9) rfl (by decide +kernel) rfl rfl (Nat.le_of_ble_eq_true rfl) d_Heap_beginMarks_12 (fun H locs hP hD hS => ?_)
  have hP : va_P (dC, dI) classes (hp_W cA ad (st, fi, se, fc, mk, re, fr, (rd + 1), 0)) H := hP
  have hD : va_D A (hp_W cA ad (st, fi, se, fc, mk, re, fr, (rd + 1), 0)) := hD
  refine lm_rv hx hb hr hlocks (st, fi, se, fc, mk, re, fr, (rd + 1), 0) ?_ hP hK hD hS d_Heap_beginMarks_15
  rfl
set_option maxHeartbeats 4000000 in
set_option maxRecDepth 100000 in
theorem c_Heap_take (l : Launch) (dC : Nat → ClassId) (dI : Nat → Nat → Nat) (cA : ClassId)  (ad : Nat → Nat) (sz : Nat) (S : ZHS) (y1 y2 y3 : Int32) (hf : hp_fok S) : Met l y_Heap_take w_Heap_take ({ frames := 1, cells := 0, slots := 0, locals := 24 } : Room) (va_Pc [.ref (ad 0), .int y1, .int y2, .int y3] (lm_pre (dC, dI) classes [(cA, .int)] (hp_W cA ad S) sz lm_no)) (va_Qi (fun (r : Int32) (u : ZHS) => r = (hp_take S y1 y2 y3).1 ∧ u = (hp_take S y1 y2 y3).2) (fun u => lm_at (dC, dI) classes [(cA, .int)] (va_A (hp_W cA ad S) sz) (hp_W cA ad u)) (va_A (hp_W cA ad S) sz)) 0 0 (va_A (hp_W cA ad S) sz) := by
  obtain ⟨st, fi, se, fc, mk, re, fr, rd, rc⟩ := S
  obtain ⟨f, hf, hfr, hfc⟩ := hf
  have hfr : fr = nI f := hfr
  have hfc : ∀ j, j < f → vp_in (fc j) 256 := hfc
  subst hfr
  refine lm_met (fun A => va_Qi (fun (r : Int32) (u : ZHS) => r = (hp_take (st, fi, se, fc, mk, re, (nI f), rd, rc) y1 y2 y3).1 ∧ u = (hp_take (st, fi, se, fc, mk, re, (nI f), rd, rc) y1 y2 y3).2) (fun u => lm_at (dC, dI) classes [(cA, .int)] A (hp_W cA ad u)) A) (by decide) rfl (Nat.le_of_ble_eq_true rfl) ?_
  intro p e s m below meth c A hx hb hr hts hown hlocks hname hml hK hP hD hA hE hsz hAe hS ls hl
  replace hl : lv_has ls 5 [(0, .ref (ad 0)), (1, .int y1), (2, .int y2), (3, .int y3)] := hl
  clear hAe hsz
  refine lv_aload_n hx hb d_Heap_take_0 rfl (lv_at hl 0 rfl) ?_
  refine va_get (D := (dC, dI)) (ci := 1) (v := .int (nI f)) (C := R_Heap) (T := F_Heap) (N := 9) hx hb hts (fun q hq => List.mem_cons_of_mem _ (i_Heap q hq)) hown hK hP 0 rfl rfl 6 (by decide) (hts _ (List.mem_cons_of_mem _ m_1_3)) (fun _ h9 => h9) rfl d_Heap_take_1 ?_
  refine lv_if_ne hx hb d_Heap_take_4 rfl (fun h4 => ?_) (fun h4 => ?_)
  · obtain ⟨g, rfl⟩ : ∃ g, f = g + 1 := by
      rcases f with _ | g
      · exact absurd nI_0 h4
      · exact ⟨g, rfl⟩
    refine lv_aload_n hx hb d_Heap_take_9 rfl (lv_at hl 0 rfl) ?_
    refine lv_dup hx hb d_Heap_take_10 rfl ?_
    refine va_get (D := (dC, dI)) (ci := 1) (v := .int (nI (g + 1))) (C := R_Heap) (T := F_Heap) (N := 9) hx hb hts (fun q hq => List.mem_cons_of_mem _ (i_Heap q hq)) hown hK hP 0 rfl rfl 6 (by decide) (hts _ (List.mem_cons_of_mem _ m_1_3)) (fun _ h9 => h9) rfl d_Heap_take_11 ?_
    refine lv_iconst (v := 1) hx hb d_Heap_take_14 (by decide) ?_
    refine lv_isub hx hb d_Heap_take_15 ?_
    refine lv_topi (fun z_ e_ => ?_)
    have e_ : z_ = nI g := e_.trans (nI_pred g)
    subst e_
    refine va_put (D := (dC, dI)) (ci := 1) (v := .int (nI g)) (ty := .int) (C := R_Heap) (T := F_Heap) (N := 9) hx hb hts (fun q hq => List.mem_cons_of_mem _ (i_Heap q hq)) t_Heap t_Heap_ok n_Heap hown hK hP hD hS 0 rfl rfl 6 (by decide) (hts _ (List.mem_cons_of_mem _ m_1_3)) (fun _ h9 => h9) rfl (by decide +kernel) rfl rfl (Nat.le_of_ble_eq_true rfl) d_Heap_take_16 (fun H locs hP hD hS => ?_)
    have hP : va_P (dC, dI) classes (hp_W cA ad (st, fi, se, fc, mk, re, (nI g), rd, rc)) H := hP
    have hD : va_D A (hp_W cA ad (st, fi, se, fc, mk, re, (nI g), rd, rc)) := hD
    refine lv_aload_n hx hb d_Heap_take_19 rfl (lv_at hl 0 rfl) ?_
    refine va_get (D := (dC, dI)) (ci := 1) (v := .ref (ad 4)) (C := R_Heap) (T := F_Heap) (N := 9) hx hb hts (fun q hq => List.mem_cons_of_mem _ (i_Heap q hq)) hown hK hP 0 rfl rfl 3 (by decide) (hts _ (List.mem_cons_of_mem _ m_1_0)) (fun _ h9 => h9) rfl d_Heap_take_20 ?_
    refine lv_aload_n hx hb d_Heap_take_23 rfl (lv_at hl 0 rfl) ?_
    refine va_get (D := (dC, dI)) (ci := 1) (v := .int (nI g)) (C := R_Heap) (T := F_Heap) (N := 9) hx hb hts (fun q hq => List.mem_cons_of_mem _ (i_Heap q hq)) hown hK hP 0 rfl rfl 6 (by decide) (hts _ (List.mem_cons_of_mem _ m_1_3)) (fun _ h9 => h9) rfl d_Heap_take_24 ?_
    have hin : vp_in (nI g) 256 := by first | assumption | exact vp_in_nI (by omega) (by decide)
    refine va_iald (f := fc) (n := 256) hx hb hK hP 4 0 rfl rfl hin d_Heap_take_27 ?_
    rw [nI_clamp (show g < 2 ^ 31 by omega)]
    refine lv_istore (lv' := [(4, .int (fc g)), (0, .ref (ad 0)), (1, .int y1), (2, .int y2), (3, .int y3)]) hx hb d_Heap_take_28 hl (by decide) rfl (fun ls hl => ?_)
    refine lv_aload_n hx hb d_Heap_take_30 rfl (lv_at hl 1 rfl) ?_
    refine lv_iload hx hb d_Heap_take_31 (lv_at hl 0 rfl) ?_
    refine lv_iload_n hx hb d_Heap_take_33 rfl (lv_at hl 2 rfl) ?_
    refine lv_iload_n hx hb d_Heap_take_34 rfl (lv_at hl 3 rfl) ?_
    refine lv_iload_n hx hb d_Heap_take_35 rfl (lv_at hl 4 rfl) ?_
    refine lm_vv (b := ad 0) (As := [.int (fc g), .int y1, .int y2, .int y3]) (rest := []) (wr := ([] : va_W)) ⟨hx, hb, hml, hown, hts⟩ hK hP hD hS hA [0, 1, 2, 3, 4, 5, 6] [] rfl rfl (by decide) (by decide) (by decide) (c_Heap_become l dC dI cA ad _ (st, fi, se, fc, mk, re, (nI g), rd, rc) (fc g) y1 y2 y3 (by exact Or.inr (hfc g (by omega)))) (cwV 4 hts (lm_gV m_9_2 m_8_1 m_8_2 m_0_2 m_8_3) rfl rfl rfl (by decide +kernel) ⟨Nat.le_of_ble_eq_true rfl, Nat.le_of_ble_eq_true rfl⟩) (va_recv (q0 := 0) hK hP rfl rfl) lm_bl_no (fun _ _ _ => trivial) hl.1 rfl rfl (Nat.le_of_ble_eq_true rfl) d_Heap_take_36 ⟨Nat.le_of_ble_eq_true rfl, Nat.le_of_ble_eq_true rfl⟩ (fun u36 H locs w36 hP hD hS => ?_)
    have hP : va_P (dC, dI) classes (hp_W cA ad u36) H := hP
    have hD : va_D A (hp_W cA ad u36) := hD
    refine lv_iload hx hb d_Heap_take_39 (lv_at hl 0 rfl) ?_
    refine lm_ri (v := (fc g)) hx hb hr hlocks u36 ?_ hP hK hD hS d_Heap_take_41
    subst w36; unfold hp_take; rw [if_neg h4]; simp only [h_fr, h_fc, nI_pred]; rw [nI_clamp (show g < 2 ^ 31 by omega)]; exact ⟨rfl, rfl⟩
  · refine lv_iconst (v := -1) hx hb d_Heap_take_7 (by decide) ?_
    refine lm_ri (v := (-1)) hx hb hr hlocks (st, fi, se, fc, mk, re, (nI f), rd, rc) ?_ hP hK hD hS d_Heap_take_8
    unfold hp_take; rw [if_pos h4]; exact ⟨rfl, rfl⟩
set_option maxHeartbeats 4000000 in
set_option maxRecDepth 100000 in
theorem c_Heap_reach (l : Launch) (dC : Nat → ClassId) (dI : Nat → Nat → Nat) (cA : ClassId)  (ad : Nat → Nat) (sz : Nat) (S : ZHS) (x : Int32) (hx1 : hp_c x) (hm : hp_mk S) : Met l y_Heap_reach w_Heap_reach ({ frames := 0, cells := 0, slots := 0, locals := 0 } : Room) (va_Pc [.ref (ad 0), .int x] (lm_pre (dC, dI) classes [(cA, .int)] (hp_W cA ad S) sz lm_no)) (va_Qv (fun (u : ZHS) => u = hp_reach S x) (fun u => lm_at (dC, dI) classes [(cA, .int)] (va_A (hp_W cA ad S) sz) (hp_W cA ad u)) (va_A (hp_W cA ad S) sz)) 0 0 (va_A (hp_W cA ad S) sz) := by
  obtain ⟨st, fi, se, fc, mk, re, fr, rd, rc⟩ := S
  refine lm_met (fun A => va_Qv (fun (u : ZHS) => u = hp_reach (st, fi, se, fc, mk, re, fr, rd, rc) x) (fun u => lm_at (dC, dI) classes [(cA, .int)] A (hp_W cA ad u)) A) (by decide) rfl (Nat.le_of_ble_eq_true rfl) ?_
  intro p e s m below meth c A hx hb hr hts hown hlocks hname hml hK hP hD hA hE hsz hAe hS ls hl
  replace hl : lv_has ls 2 [(0, .ref (ad 0)), (1, .int x)] := hl
  clear hAe hsz
  refine lv_iload_n hx hb d_Heap_reach_0 rfl (lv_at hl 1 rfl) ?_
  refine lv_iconst (v := -1) hx hb d_Heap_reach_1 (by decide) ?_
  refine lv_icmp_eq hx hb d_Heap_reach_2 rfl (fun h2 => ?_) (fun h2 => ?_)
  · refine lm_rv hx hb hr hlocks (st, fi, se, fc, mk, re, fr, rd, rc) ?_ hP hK hD hS d_Heap_reach_18
    simp [hp_reach, h_st, h_fi, h_se, h_fc, h_mk, h_re, h_fr, h_rd, h_rc, h2]
  · refine lv_aload_n hx hb d_Heap_reach_5 rfl (lv_at hl 0 rfl) ?_
    refine va_get (D := (dC, dI)) (ci := 1) (v := .ref (ad 5)) (C := R_Heap) (T := F_Heap) (N := 9) hx hb hts (fun q hq => List.mem_cons_of_mem _ (i_Heap q hq)) hown hK hP 0 rfl rfl 4 (by decide) (hts _ (List.mem_cons_of_mem _ m_1_1)) (fun _ h9 => h9) rfl d_Heap_reach_6 ?_
    refine lv_iload_n hx hb d_Heap_reach_9 rfl (lv_at hl 1 rfl) ?_
    have hin : vp_in x 256 := by exact hx1.resolve_left h2
    refine va_iald (f := mk) (n := 256) hx hb hK hP 5 0 rfl rfl hin d_Heap_reach_10 ?_
    refine lv_aload_n hx hb d_Heap_reach_11 rfl (lv_at hl 0 rfl) ?_
    refine va_get (D := (dC, dI)) (ci := 1) (v := .int rd) (C := R_Heap) (T := F_Heap) (N := 9) hx hb hts (fun q hq => List.mem_cons_of_mem _ (i_Heap q hq)) hown hK hP 0 rfl rfl 7 (by decide) (hts _ (List.mem_cons_of_mem _ m_1_4)) (fun _ h9 => h9) rfl d_Heap_reach_12 ?_
    refine lv_icmp_ne hx hb d_Heap_reach_15 rfl (fun h15 => ?_) (fun h15 => ?_)
    · refine lv_aload_n hx hb d_Heap_reach_19 rfl (lv_at hl 0 rfl) ?_
      refine va_get (D := (dC, dI)) (ci := 1) (v := .ref (ad 5)) (C := R_Heap) (T := F_Heap) (N := 9) hx hb hts (fun q hq => List.mem_cons_of_mem _ (i_Heap q hq)) hown hK hP 0 rfl rfl 4 (by decide) (hts _ (List.mem_cons_of_mem _ m_1_1)) (fun _ h9 => h9) rfl d_Heap_reach_20 ?_
      refine lv_iload_n hx hb d_Heap_reach_23 rfl (lv_at hl 1 rfl) ?_
      refine lv_aload_n hx hb d_Heap_reach_24 rfl (lv_at hl 0 rfl) ?_
      refine va_get (D := (dC, dI)) (ci := 1) (v := .int rd) (C := R_Heap) (T := F_Heap) (N := 9) hx hb hts (fun q hq => List.mem_cons_of_mem _ (i_Heap q hq)) hown hK hP 0 rfl rfl 7 (by decide) (hts _ (List.mem_cons_of_mem _ m_1_4)) (fun _ h9 => h9) rfl d_Heap_reach_25 ?_
      have hin : vp_in x 256 := by exact hx1.resolve_left h2
      refine va_iast (f := mk) (n := 256) hx hb hK hP hD hS 5 0 rfl rfl hin d_Heap_reach_28 (fun H locs hP hD hS => ?_)
      have hP : va_P (dC, dI) classes (hp_W cA ad (st, fi, se, fc, (upd mk x.toNatClampNeg rd), re, fr, rd, rc)) H := hP
      have hD : va_D A (hp_W cA ad (st, fi, se, fc, (upd mk x.toNatClampNeg rd), re, fr, rd, rc)) := hD
      refine lv_aload_n hx hb d_Heap_reach_29 rfl (lv_at hl 0 rfl) ?_
      refine va_get (D := (dC, dI)) (ci := 1) (v := .ref (ad 6)) (C := R_Heap) (T := F_Heap) (N := 9) hx hb hts (fun q hq => List.mem_cons_of_mem _ (i_Heap q hq)) hown hK hP 0 rfl rfl 5 (by decide) (hts _ (List.mem_cons_of_mem _ m_1_2)) (fun _ h9 => h9) rfl d_Heap_reach_30 ?_
      refine lv_aload_n hx hb d_Heap_reach_33 rfl (lv_at hl 0 rfl) ?_
      refine va_get (D := (dC, dI)) (ci := 1) (v := .int rc) (C := R_Heap) (T := F_Heap) (N := 9) hx hb hts (fun q hq => List.mem_cons_of_mem _ (i_Heap q hq)) hown hK hP 0 rfl rfl 8 (by decide) (hts _ (List.mem_cons_of_mem _ m_1_5)) (fun _ h9 => h9) rfl d_Heap_reach_34 ?_
      refine lv_iload_n hx hb d_Heap_reach_37 rfl (lv_at hl 1 rfl) ?_
      have hin : vp_in rc 256 := by obtain ⟨k, hk, hrc⟩ := hp_roomy hm (hx1.resolve_left h2) h15; have hrc : rc = nI k := hrc; rw [hrc]; exact vp_in_nI hk (by decide)
      refine va_iast (f := re) (n := 256) hx hb hK hP hD hS 6 0 rfl rfl hin d_Heap_reach_38 (fun H locs hP hD hS => ?_)
      have hP : va_P (dC, dI) classes (hp_W cA ad (st, fi, se, fc, (upd mk x.toNatClampNeg rd), (upd re rc.toNatClampNeg x), fr, rd, rc)) H := hP
      have hD : va_D A (hp_W cA ad (st, fi, se, fc, (upd mk x.toNatClampNeg rd), (upd re rc.toNatClampNeg x), fr, rd, rc)) := hD
      refine lv_aload_n hx hb d_Heap_reach_39 rfl (lv_at hl 0 rfl) ?_
      refine lv_dup hx hb d_Heap_reach_40 rfl ?_
      refine va_get (D := (dC, dI)) (ci := 1) (v := .int rc) (C := R_Heap) (T := F_Heap) (N := 9) hx hb hts (fun q hq => List.mem_cons_of_mem _ (i_Heap q hq)) hown hK hP 0 rfl rfl 8 (by decide) (hts _ (List.mem_cons_of_mem _ m_1_5)) (fun _ h9 => h9) rfl d_Heap_reach_41 ?_
      refine lv_iconst (v := 1) hx hb d_Heap_reach_44 (by decide) ?_
      refine lv_iadd hx hb d_Heap_reach_45 ?_
      refine va_put (D := (dC, dI)) (ci := 1) (v := .int (rc + 1)) (ty := .int) (C := R_Heap) (T := F_Heap) (N := 9) hx hb hts (fun q hq => List.mem_cons_of_mem _ (i_Heap q hq)) t_Heap t_Heap_ok n_Heap hown hK hP hD hS 0 rfl rfl 8 (by decide) (hts _ (List.mem_cons_of_mem _ m_1_5)) (fun _ h9 => h9) rfl (by decide +kernel) rfl rfl (Nat.le_of_ble_eq_true rfl) d_Heap_reach_46 (fun H locs hP hD hS => ?_)
      have hP : va_P (dC, dI) classes (hp_W cA ad (st, fi, se, fc, (upd mk x.toNatClampNeg rd), (upd re rc.toNatClampNeg x), fr, rd, (rc + 1))) H := hP
      have hD : va_D A (hp_W cA ad (st, fi, se, fc, (upd mk x.toNatClampNeg rd), (upd re rc.toNatClampNeg x), fr, rd, (rc + 1))) := hD
      refine lm_rv hx hb hr hlocks (st, fi, se, fc, (upd mk x.toNatClampNeg rd), (upd re rc.toNatClampNeg x), fr, rd, (rc + 1)) ?_ hP hK hD hS d_Heap_reach_49
      simp [hp_reach, h_st, h_fi, h_se, h_fc, h_mk, h_re, h_fr, h_rd, h_rc, h2, h15]
    · refine lm_rv hx hb hr hlocks (st, fi, se, fc, mk, re, fr, rd, rc) ?_ hP hK hD hS d_Heap_reach_18
      simp [hp_reach, h_st, h_fi, h_se, h_fc, h_mk, h_re, h_fr, h_rd, h_rc, h2, h15]
set_option maxHeartbeats 4000000 in
set_option maxRecDepth 100000 in
theorem c_Heap_reachFrom (l : Launch) (dC : Nat → ClassId) (dI : Nat → Nat → Nat) (cA : ClassId)  (ad : Nat → Nat) (sz : Nat) (S : ZHS) (y1 y2 y3 : Int32) (hb1 : y1 = 5 ∨ y1 = 2 → hp_c y2) (hc1 : hp_c y3) (hm : hp_mk S) : Met l y_Heap_reachFrom w_Heap_reachFrom ({ frames := 1, cells := 0, slots := 0, locals := 21 } : Room) (va_Pc [.ref (ad 0), .int y1, .int y2, .int y3] (lm_pre (dC, dI) classes [(cA, .int)] (hp_W cA ad S) sz lm_no)) (va_Qv (fun (u : ZHS) => u = hp_from S y1 y2 y3) (fun u => lm_at (dC, dI) classes [(cA, .int)] (va_A (hp_W cA ad S) sz) (hp_W cA ad u)) (va_A (hp_W cA ad S) sz)) 0 0 (va_A (hp_W cA ad S) sz) := by
  obtain ⟨st, fi, se, fc, mk, re, fr, rd, rc⟩ := S
  refine lm_met (fun A => va_Qv (fun (u : ZHS) => u = hp_from (st, fi, se, fc, mk, re, fr, rd, rc) y1 y2 y3) (fun u => lm_at (dC, dI) classes [(cA, .int)] A (hp_W cA ad u)) A) (by decide) rfl (Nat.le_of_ble_eq_true rfl) ?_
  intro p e s m below meth c A hx hb hr hts hown hlocks hname hml hK hP hD hA hE hsz hAe hS ls hl
  replace hl : lv_has ls 4 [(0, .ref (ad 0)), (1, .int y1), (2, .int y2), (3, .int y3)] := hl
  clear hAe hsz
  refine lv_iload_n hx hb d_Heap_reachFrom_0 rfl (lv_at hl 1 rfl) ?_
  refine lv_iconst (v := 5) hx hb d_Heap_reachFrom_1 (by decide) ?_
  refine lv_icmp_eq hx hb d_Heap_reachFrom_2 rfl (fun h2 => ?_) (fun h2 => ?_)
  · refine lv_aload_n hx hb d_Heap_reachFrom_10 rfl (lv_at hl 0 rfl) ?_
    refine lv_iload_n hx hb d_Heap_reachFrom_11 rfl (lv_at hl 2 rfl) ?_
    refine lm_vv (b := ad 0) (As := [.int y2]) (rest := []) (wr := ([] : va_W)) ⟨hx, hb, hml, hown, hts⟩ hK hP hD hS hA [0, 1, 2, 3, 4, 5, 6] [] rfl rfl (by decide) (by decide) (by decide) (c_Heap_reach l dC dI cA ad _ (st, fi, se, fc, mk, re, fr, rd, rc) y2 (by first | exact hb1 (Or.inl h2) | exact hb1 (Or.inr h7)) (by exact hm)) (cwV 1 hts (lm_gV m_5_8 m_5_9 m_5_10 m_0_2 m_5_11) rfl rfl rfl (by decide +kernel) ⟨Nat.le_of_ble_eq_true rfl, Nat.le_of_ble_eq_true rfl⟩) (va_recv (q0 := 0) hK hP rfl rfl) lm_bl_no (fun _ _ _ => trivial) hl.1 rfl rfl (Nat.le_of_ble_eq_true rfl) d_Heap_reachFrom_12 ⟨Nat.le_of_ble_eq_true rfl, Nat.le_of_ble_eq_true rfl⟩ (fun u12 H locs w12 hP hD hS => ?_)
    have hP : va_P (dC, dI) classes (hp_W cA ad u12) H := hP
    have hD : va_D A (hp_W cA ad u12) := hD
    refine lv_aload_n hx hb d_Heap_reachFrom_15 rfl (lv_at hl 0 rfl) ?_
    refine lv_iload_n hx hb d_Heap_reachFrom_16 rfl (lv_at hl 3 rfl) ?_
    refine lm_vv (b := ad 0) (As := [.int y3]) (rest := []) (wr := ([] : va_W)) ⟨hx, hb, hml, hown, hts⟩ hK hP hD hS hA [0, 1, 2, 3, 4, 5, 6] [] rfl rfl (by decide) (by decide) (by decide) (c_Heap_reach l dC dI cA ad _ u12 y3 (by exact hc1) (by rw [w12]; exact hp_mk_reach hm (by first | exact hb1 (Or.inl h2) | exact hb1 (Or.inr h7)))) (cwV 1 hts (lm_gV m_5_8 m_5_9 m_5_10 m_0_2 m_5_11) rfl rfl rfl (by decide +kernel) ⟨Nat.le_of_ble_eq_true rfl, Nat.le_of_ble_eq_true rfl⟩) (va_recv (q0 := 0) hK hP rfl rfl) lm_bl_no (fun _ _ _ => trivial) hl.1 rfl rfl (Nat.le_of_ble_eq_true rfl) d_Heap_reachFrom_17 ⟨Nat.le_of_ble_eq_true rfl, Nat.le_of_ble_eq_true rfl⟩ (fun u17 H locs w17 hP hD hS => ?_)
    have hP : va_P (dC, dI) classes (hp_W cA ad u17) H := hP
    have hD : va_D A (hp_W cA ad u17) := hD
    refine lv_goto hx hb d_Heap_reachFrom_20 rfl ?_
    refine lm_rv hx hb hr hlocks u17 ?_ hP hK hD hS d_Heap_reachFrom_38
    subst w12 w17; simp [hp_from, h_st, h_fi, h_se, h_fc, h_mk, h_re, h_fr, h_rd, h_rc, h2]
  · refine lv_iload_n hx hb d_Heap_reachFrom_5 rfl (lv_at hl 1 rfl) ?_
    refine lv_iconst (v := 2) hx hb d_Heap_reachFrom_6 (by decide) ?_
    refine lv_icmp_ne hx hb d_Heap_reachFrom_7 rfl (fun h7 => ?_) (fun h7 => ?_)
    · refine lv_iload_n hx hb d_Heap_reachFrom_23 rfl (lv_at hl 1 rfl) ?_
      refine lv_iconst (v := 3) hx hb d_Heap_reachFrom_24 (by decide) ?_
      refine lv_icmp_eq hx hb d_Heap_reachFrom_25 rfl (fun h25 => ?_) (fun h25 => ?_)
      · refine lv_aload_n hx hb d_Heap_reachFrom_33 rfl (lv_at hl 0 rfl) ?_
        refine lv_iload_n hx hb d_Heap_reachFrom_34 rfl (lv_at hl 3 rfl) ?_
        refine lm_vv (b := ad 0) (As := [.int y3]) (rest := []) (wr := ([] : va_W)) ⟨hx, hb, hml, hown, hts⟩ hK hP hD hS hA [0, 1, 2, 3, 4, 5, 6] [] rfl rfl (by decide) (by decide) (by decide) (c_Heap_reach l dC dI cA ad _ (st, fi, se, fc, mk, re, fr, rd, rc) y3 (by exact hc1) (by exact hm)) (cwV 1 hts (lm_gV m_5_8 m_5_9 m_5_10 m_0_2 m_5_11) rfl rfl rfl (by decide +kernel) ⟨Nat.le_of_ble_eq_true rfl, Nat.le_of_ble_eq_true rfl⟩) (va_recv (q0 := 0) hK hP rfl rfl) lm_bl_no (fun _ _ _ => trivial) hl.1 rfl rfl (Nat.le_of_ble_eq_true rfl) d_Heap_reachFrom_35 ⟨Nat.le_of_ble_eq_true rfl, Nat.le_of_ble_eq_true rfl⟩ (fun u35 H locs w35 hP hD hS => ?_)
        have hP : va_P (dC, dI) classes (hp_W cA ad u35) H := hP
        have hD : va_D A (hp_W cA ad u35) := hD
        refine lm_rv hx hb hr hlocks u35 ?_ hP hK hD hS d_Heap_reachFrom_38
        subst w35; simp [hp_from, h_st, h_fi, h_se, h_fc, h_mk, h_re, h_fr, h_rd, h_rc, h2, h7, h25]
      · refine lv_iload_n hx hb d_Heap_reachFrom_28 rfl (lv_at hl 1 rfl) ?_
        refine lv_iconst (v := 1) hx hb d_Heap_reachFrom_29 (by decide) ?_
        refine lv_icmp_ne hx hb d_Heap_reachFrom_30 rfl (fun h30 => ?_) (fun h30 => ?_)
        · refine lm_rv hx hb hr hlocks (st, fi, se, fc, mk, re, fr, rd, rc) ?_ hP hK hD hS d_Heap_reachFrom_38
          simp [hp_from, h_st, h_fi, h_se, h_fc, h_mk, h_re, h_fr, h_rd, h_rc, h2, h7, h25, h30]
        · refine lv_aload_n hx hb d_Heap_reachFrom_33 rfl (lv_at hl 0 rfl) ?_
          refine lv_iload_n hx hb d_Heap_reachFrom_34 rfl (lv_at hl 3 rfl) ?_
          refine lm_vv (b := ad 0) (As := [.int y3]) (rest := []) (wr := ([] : va_W)) ⟨hx, hb, hml, hown, hts⟩ hK hP hD hS hA [0, 1, 2, 3, 4, 5, 6] [] rfl rfl (by decide) (by decide) (by decide) (c_Heap_reach l dC dI cA ad _ (st, fi, se, fc, mk, re, fr, rd, rc) y3 (by exact hc1) (by exact hm)) (cwV 1 hts (lm_gV m_5_8 m_5_9 m_5_10 m_0_2 m_5_11) rfl rfl rfl (by decide +kernel) ⟨Nat.le_of_ble_eq_true rfl, Nat.le_of_ble_eq_true rfl⟩) (va_recv (q0 := 0) hK hP rfl rfl) lm_bl_no (fun _ _ _ => trivial) hl.1 rfl rfl (Nat.le_of_ble_eq_true rfl) d_Heap_reachFrom_35 ⟨Nat.le_of_ble_eq_true rfl, Nat.le_of_ble_eq_true rfl⟩ (fun u35 H locs w35 hP hD hS => ?_)
          have hP : va_P (dC, dI) classes (hp_W cA ad u35) H := hP
          have hD : va_D A (hp_W cA ad u35) := hD
          refine lm_rv hx hb hr hlocks u35 ?_ hP hK hD hS d_Heap_reachFrom_38
          subst w35; simp [hp_from, h_st, h_fi, h_se, h_fc, h_mk, h_re, h_fr, h_rd, h_rc, h2, h7, h25, h30]
    · refine lv_aload_n hx hb d_Heap_reachFrom_10 rfl (lv_at hl 0 rfl) ?_
      refine lv_iload_n hx hb d_Heap_reachFrom_11 rfl (lv_at hl 2 rfl) ?_
      refine lm_vv (b := ad 0) (As := [.int y2]) (rest := []) (wr := ([] : va_W)) ⟨hx, hb, hml, hown, hts⟩ hK hP hD hS hA [0, 1, 2, 3, 4, 5, 6] [] rfl rfl (by decide) (by decide) (by decide) (c_Heap_reach l dC dI cA ad _ (st, fi, se, fc, mk, re, fr, rd, rc) y2 (by first | exact hb1 (Or.inl h2) | exact hb1 (Or.inr h7)) (by exact hm)) (cwV 1 hts (lm_gV m_5_8 m_5_9 m_5_10 m_0_2 m_5_11) rfl rfl rfl (by decide +kernel) ⟨Nat.le_of_ble_eq_true rfl, Nat.le_of_ble_eq_true rfl⟩) (va_recv (q0 := 0) hK hP rfl rfl) lm_bl_no (fun _ _ _ => trivial) hl.1 rfl rfl (Nat.le_of_ble_eq_true rfl) d_Heap_reachFrom_12 ⟨Nat.le_of_ble_eq_true rfl, Nat.le_of_ble_eq_true rfl⟩ (fun u12 H locs w12 hP hD hS => ?_)
      have hP : va_P (dC, dI) classes (hp_W cA ad u12) H := hP
      have hD : va_D A (hp_W cA ad u12) := hD
      refine lv_aload_n hx hb d_Heap_reachFrom_15 rfl (lv_at hl 0 rfl) ?_
      refine lv_iload_n hx hb d_Heap_reachFrom_16 rfl (lv_at hl 3 rfl) ?_
      refine lm_vv (b := ad 0) (As := [.int y3]) (rest := []) (wr := ([] : va_W)) ⟨hx, hb, hml, hown, hts⟩ hK hP hD hS hA [0, 1, 2, 3, 4, 5, 6] [] rfl rfl (by decide) (by decide) (by decide) (c_Heap_reach l dC dI cA ad _ u12 y3 (by exact hc1) (by rw [w12]; exact hp_mk_reach hm (by first | exact hb1 (Or.inl h2) | exact hb1 (Or.inr h7)))) (cwV 1 hts (lm_gV m_5_8 m_5_9 m_5_10 m_0_2 m_5_11) rfl rfl rfl (by decide +kernel) ⟨Nat.le_of_ble_eq_true rfl, Nat.le_of_ble_eq_true rfl⟩) (va_recv (q0 := 0) hK hP rfl rfl) lm_bl_no (fun _ _ _ => trivial) hl.1 rfl rfl (Nat.le_of_ble_eq_true rfl) d_Heap_reachFrom_17 ⟨Nat.le_of_ble_eq_true rfl, Nat.le_of_ble_eq_true rfl⟩ (fun u17 H locs w17 hP hD hS => ?_)
      have hP : va_P (dC, dI) classes (hp_W cA ad u17) H := hP
      have hD : va_D A (hp_W cA ad u17) := hD
      refine lv_goto hx hb d_Heap_reachFrom_20 rfl ?_
      refine lm_rv hx hb hr hlocks u17 ?_ hP hK hD hS d_Heap_reachFrom_38
      subst w12 w17; simp [hp_from, h_st, h_fi, h_se, h_fc, h_mk, h_re, h_fr, h_rd, h_rc, h2, h7]
set_option maxHeartbeats 4000000 in
set_option maxRecDepth 100000 in
theorem c_Heap_spreadMarks (l : Launch) (dC : Nat → ClassId) (dI : Nat → Nat → Nat) (cA : ClassId)  (ad : Nat → Nat) (sz : Nat) (S : ZHS)  (hm : hp_mk S) (ho : hp_ok S) : Met l y_Heap_spreadMarks w_Heap_spreadMarks ({ frames := 2, cells := 0, slots := 0, locals := 44 } : Room) (va_Pc [.ref (ad 0)] (lm_pre (dC, dI) classes [(cA, .int)] (hp_W cA ad S) sz lm_no)) (va_Qi (fun (r : Int32) (u : ZHS) => r = h_rc (hp_spread S) ∧ u = hp_spread S) (fun u => lm_at (dC, dI) classes [(cA, .int)] (va_A (hp_W cA ad S) sz) (hp_W cA ad u)) (va_A (hp_W cA ad S) sz)) 0 0 (va_A (hp_W cA ad S) sz) := by
  obtain ⟨st, fi, se, fc, mk, re, fr, rd, rc⟩ := S
  refine lm_met (fun A => va_Qi (fun (r : Int32) (u : ZHS) => r = h_rc (hp_spread (st, fi, se, fc, mk, re, fr, rd, rc)) ∧ u = hp_spread (st, fi, se, fc, mk, re, fr, rd, rc)) (fun u => lm_at (dC, dI) classes [(cA, .int)] A (hp_W cA ad u)) A) (by decide) rfl (Nat.le_of_ble_eq_true rfl) ?_
  intro p e s m below meth c A hx hb hr hts hown hlocks hname hml hK hP hD hA hE hsz hAe hS ls hl
  replace hl : lv_has ls 3 [(0, .ref (ad 0))] := hl
  clear hAe hsz
  refine lv_iconst (v := 0) hx hb d_Heap_spreadMarks_0 (by decide) ?_
  refine lv_istore_n (lv' := [(1, .int 0), (0, .ref (ad 0))]) hx hb d_Heap_spreadMarks_1 rfl hl (by decide) rfl (fun ls hl => ?_)
  have loop : ∀ (fu : Nat) (k : Nat) (Z : ZHS) (ls : Array Slot) (H : Heap) (locs : List Loc), (k + fu = 256) → (hp_mk Z) → (hp_ok Z) → (hp_spread (st, fi, se, fc, mk, re, fr, rd, rc) = hp_spreadN fu k Z) → lv_has ls 3 [(1, .int (nI k)), (0, .ref (ad 0))] → va_P (dC, dI) classes (hp_W cA ad Z) H → va_D A (hp_W cA ad Z) → va_S A s.heap H locs → W p l e (headSpec w_Heap_spreadMarks ({ frames := 2, cells := 0, slots := 0, locals := 44 } : Room)).room s m (List.toArray [.ref (ad 0)]) below meth c H locs 0 0 (MQ below (va_Qi (fun (r : Int32) (u : ZHS) => r = h_rc (hp_spread (st, fi, se, fc, mk, re, fr, rd, rc)) ∧ u = hp_spread (st, fi, se, fc, mk, re, fr, rd, rc)) (fun u => lm_at (dC, dI) classes [(cA, .int)] A (hp_W cA ad u)) A) (List.toArray [.ref (ad 0)]) s 0 0 A) (F0 m 2 ls []) := by
    intro fu
    induction fu with
    | zero => 
      intro k Z ls H locs hk hZ hZ2 hq hl hP hD hS
      refine lv_iload_n hx hb d_Heap_spreadMarks_2 rfl (lv_at hl 0 rfl) ?_
      refine lv_aload_n hx hb d_Heap_spreadMarks_3 rfl (lv_at hl 1 rfl) ?_
      refine va_get (D := (dC, dI)) (ci := 1) (v := .int Z.2.2.2.2.2.2.2.2) (C := R_Heap) (T := F_Heap) (N := 9) hx hb hts (fun q hq => List.mem_cons_of_mem _ (i_Heap q hq)) hown hK hP 0 rfl rfl 8 (by decide) (hts _ (List.mem_cons_of_mem _ m_1_5)) (fun _ h9 => h9) rfl d_Heap_spreadMarks_4 ?_
      refine lv_icmp_ge hx hb d_Heap_spreadMarks_7 rfl (fun h7 => ?_) (fun h7 => ?_)
      · refine lv_aload_n hx hb d_Heap_spreadMarks_52 rfl (lv_at hl 1 rfl) ?_
        refine va_get (D := (dC, dI)) (ci := 1) (v := .int Z.2.2.2.2.2.2.2.2) (C := R_Heap) (T := F_Heap) (N := 9) hx hb hts (fun q hq => List.mem_cons_of_mem _ (i_Heap q hq)) hown hK hP 0 rfl rfl 8 (by decide) (hts _ (List.mem_cons_of_mem _ m_1_5)) (fun _ h9 => h9) rfl d_Heap_spreadMarks_53 ?_
        refine lm_ri (v := Z.2.2.2.2.2.2.2.2) hx hb hr hlocks Z ?_ hP hK hD hS d_Heap_spreadMarks_56
        first | (rw [hq, hp_spreadN, if_pos h7]; exact ⟨rfl, rfl⟩) | (rw [hq, hp_spreadN]; exact ⟨rfl, rfl⟩)
      · refine lv_iload_n hx hb d_Heap_spreadMarks_10 rfl (lv_at hl 0 rfl) ?_
        refine lv_sipush (v := 256) hx hb d_Heap_spreadMarks_11 (by decide) ?_
        refine lv_icmp_ge hx hb d_Heap_spreadMarks_14 rfl (fun h14 => ?_) (fun h14 => by exact absurd (show (256 : Int32) ≤ nI k from nI_le (a := 256) (by omega) (by omega)) h14)
        refine lv_aload_n hx hb d_Heap_spreadMarks_52 rfl (lv_at hl 1 rfl) ?_
        refine va_get (D := (dC, dI)) (ci := 1) (v := .int Z.2.2.2.2.2.2.2.2) (C := R_Heap) (T := F_Heap) (N := 9) hx hb hts (fun q hq => List.mem_cons_of_mem _ (i_Heap q hq)) hown hK hP 0 rfl rfl 8 (by decide) (hts _ (List.mem_cons_of_mem _ m_1_5)) (fun _ h9 => h9) rfl d_Heap_spreadMarks_53 ?_
        refine lm_ri (v := Z.2.2.2.2.2.2.2.2) hx hb hr hlocks Z ?_ hP hK hD hS d_Heap_spreadMarks_56
        first | (rw [hq, hp_spreadN, if_pos h7]; exact ⟨rfl, rfl⟩) | (rw [hq, hp_spreadN]; exact ⟨rfl, rfl⟩)
    | succ fu ih => 
      intro k Z ls H locs hk hZ hZ2 hq hl hP hD hS
      refine lv_iload_n hx hb d_Heap_spreadMarks_2 rfl (lv_at hl 0 rfl) ?_
      refine lv_aload_n hx hb d_Heap_spreadMarks_3 rfl (lv_at hl 1 rfl) ?_
      refine va_get (D := (dC, dI)) (ci := 1) (v := .int Z.2.2.2.2.2.2.2.2) (C := R_Heap) (T := F_Heap) (N := 9) hx hb hts (fun q hq => List.mem_cons_of_mem _ (i_Heap q hq)) hown hK hP 0 rfl rfl 8 (by decide) (hts _ (List.mem_cons_of_mem _ m_1_5)) (fun _ h9 => h9) rfl d_Heap_spreadMarks_4 ?_
      refine lv_icmp_ge hx hb d_Heap_spreadMarks_7 rfl (fun h7 => ?_) (fun h7 => ?_)
      · refine lv_aload_n hx hb d_Heap_spreadMarks_52 rfl (lv_at hl 1 rfl) ?_
        refine va_get (D := (dC, dI)) (ci := 1) (v := .int Z.2.2.2.2.2.2.2.2) (C := R_Heap) (T := F_Heap) (N := 9) hx hb hts (fun q hq => List.mem_cons_of_mem _ (i_Heap q hq)) hown hK hP 0 rfl rfl 8 (by decide) (hts _ (List.mem_cons_of_mem _ m_1_5)) (fun _ h9 => h9) rfl d_Heap_spreadMarks_53 ?_
        refine lm_ri (v := Z.2.2.2.2.2.2.2.2) hx hb hr hlocks Z ?_ hP hK hD hS d_Heap_spreadMarks_56
        first | (rw [hq, hp_spreadN, if_pos h7]; exact ⟨rfl, rfl⟩) | (rw [hq, hp_spreadN]; exact ⟨rfl, rfl⟩)
      · refine lv_iload_n hx hb d_Heap_spreadMarks_10 rfl (lv_at hl 0 rfl) ?_
        refine lv_sipush (v := 256) hx hb d_Heap_spreadMarks_11 (by decide) ?_
        refine lv_icmp_ge hx hb d_Heap_spreadMarks_14 rfl (fun h14 => by exact absurd h14 (nI_ge (b := 256) (by omega) (by decide))) (fun h14 => ?_)
        refine lv_aload_n hx hb d_Heap_spreadMarks_17 rfl (lv_at hl 1 rfl) ?_
        refine va_get (D := (dC, dI)) (ci := 1) (v := .ref (ad 6)) (C := R_Heap) (T := F_Heap) (N := 9) hx hb hts (fun q hq => List.mem_cons_of_mem _ (i_Heap q hq)) hown hK hP 0 rfl rfl 5 (by decide) (hts _ (List.mem_cons_of_mem _ m_1_2)) (fun _ h9 => h9) rfl d_Heap_spreadMarks_18 ?_
        refine lv_iload_n hx hb d_Heap_spreadMarks_21 rfl (lv_at hl 0 rfl) ?_
        have hin : vp_in (nI k) 256 := by exact vp_in_nI (by omega) (by decide)
        refine va_iald (f := Z.2.2.2.2.2.1) (n := 256) hx hb hK hP 6 0 rfl rfl hin d_Heap_spreadMarks_22 ?_
        rw [nI_clamp (show k < 2 ^ 31 by omega)]
        refine lv_istore_n (lv' := [(2, .int (Z.2.2.2.2.2.1 k)), (1, .int (nI k)), (0, .ref (ad 0))]) hx hb d_Heap_spreadMarks_23 rfl hl (by decide) rfl (fun ls hl => ?_)
        have hin : vp_in (h_re Z k) 256 := by
          obtain ⟨n, hn, hrc, hre, _⟩ := hZ
          exact (hre k (by
            rcases Nat.lt_or_ge k n with h9 | h9
            · exact h9
            · exact absurd (by show h_rc Z ≤ nI k; rw [hrc]; exact nI_le h9 (by omega)) h7)).1
        refine lv_aload_n hx hb d_Heap_spreadMarks_24 rfl (lv_at hl 2 rfl) ?_
        refine lv_aload_n hx hb d_Heap_spreadMarks_25 rfl (lv_at hl 2 rfl) ?_
        refine va_get (D := (dC, dI)) (ci := 1) (v := .ref (ad 1)) (C := R_Heap) (T := F_Heap) (N := 9) hx hb hts (fun q hq => List.mem_cons_of_mem _ (i_Heap q hq)) hown hK hP 0 rfl rfl 0 (by decide) (hts _ (List.mem_cons_of_mem _ m_0_21)) (fun _ h9 => h9) rfl d_Heap_spreadMarks_26 ?_
        refine lv_iload_n hx hb d_Heap_spreadMarks_29 rfl (lv_at hl 0 rfl) ?_
        have hin : vp_in (Z.2.2.2.2.2.1 k) 256 := by exact hin
        refine va_iald (f := Z.1) (n := 256) hx hb hK hP 1 0 rfl rfl hin d_Heap_spreadMarks_30 ?_
        refine lv_aload_n hx hb d_Heap_spreadMarks_31 rfl (lv_at hl 2 rfl) ?_
        refine va_get (D := (dC, dI)) (ci := 1) (v := .ref (ad 2)) (C := R_Heap) (T := F_Heap) (N := 9) hx hb hts (fun q hq => List.mem_cons_of_mem _ (i_Heap q hq)) hown hK hP 0 rfl rfl 1 (by decide) (hts _ (List.mem_cons_of_mem _ m_0_22)) (fun _ h9 => h9) rfl d_Heap_spreadMarks_32 ?_
        refine lv_iload_n hx hb d_Heap_spreadMarks_35 rfl (lv_at hl 0 rfl) ?_
        have hin : vp_in (Z.2.2.2.2.2.1 k) 256 := by exact hin
        refine va_iald (f := Z.2.1) (n := 256) hx hb hK hP 2 0 rfl rfl hin d_Heap_spreadMarks_36 ?_
        refine lv_aload_n hx hb d_Heap_spreadMarks_37 rfl (lv_at hl 2 rfl) ?_
        refine va_get (D := (dC, dI)) (ci := 1) (v := .ref (ad 3)) (C := R_Heap) (T := F_Heap) (N := 9) hx hb hts (fun q hq => List.mem_cons_of_mem _ (i_Heap q hq)) hown hK hP 0 rfl rfl 2 (by decide) (hts _ (List.mem_cons_of_mem _ m_0_23)) (fun _ h9 => h9) rfl d_Heap_spreadMarks_38 ?_
        refine lv_iload_n hx hb d_Heap_spreadMarks_41 rfl (lv_at hl 0 rfl) ?_
        have hin : vp_in (Z.2.2.2.2.2.1 k) 256 := by exact hin
        refine va_iald (f := Z.2.2.1) (n := 256) hx hb hK hP 3 0 rfl rfl hin d_Heap_spreadMarks_42 ?_
        refine lm_vv (b := ad 0) (As := [.int (Z.1 (Z.2.2.2.2.2.1 k).toNatClampNeg), .int (Z.2.1 (Z.2.2.2.2.2.1 k).toNatClampNeg), .int (Z.2.2.1 (Z.2.2.2.2.2.1 k).toNatClampNeg)]) (rest := []) (wr := ([] : va_W)) ⟨hx, hb, hml, hown, hts⟩ hK hP hD hS hA [0, 1, 2, 3, 4, 5, 6] [] rfl rfl (by decide) (by decide) (by decide) (c_Heap_reachFrom l dC dI cA ad _ Z (Z.1 (Z.2.2.2.2.2.1 k).toNatClampNeg) (Z.2.1 (Z.2.2.2.2.2.1 k).toNatClampNeg) (Z.2.2.1 (Z.2.2.2.2.2.1 k).toNatClampNeg) (by exact fun q => (hZ2 _ (hp_in_lt hin (by decide))).1 q) (by exact (hZ2 _ (hp_in_lt hin (by decide))).2) (by exact hZ)) (cwV 3 hts (lm_gV m_5_22 m_5_5 m_5_6 m_0_2 m_5_7) rfl rfl rfl (by decide +kernel) ⟨Nat.le_of_ble_eq_true rfl, Nat.le_of_ble_eq_true rfl⟩) (va_recv (q0 := 0) hK hP rfl rfl) lm_bl_no (fun _ _ _ => trivial) hl.1 rfl rfl (Nat.le_of_ble_eq_true rfl) d_Heap_spreadMarks_43 ⟨Nat.le_of_ble_eq_true rfl, Nat.le_of_ble_eq_true rfl⟩ (fun u43 H locs w43 hP hD hS => ?_)
        have hP : va_P (dC, dI) classes (hp_W cA ad u43) H := hP
        have hD : va_D A (hp_W cA ad u43) := hD
        refine lv_iinc (k := 1) (v := (nI (k + 1))) (lv' := [(1, .int (nI (k + 1))), (2, .int (Z.2.2.2.2.2.1 k)), (0, .ref (ad 0))]) hx hb d_Heap_spreadMarks_46 hl rfl ((nI_succ k).symm) (by decide) rfl (fun ls hl => ?_)
        refine lv_goto hx hb d_Heap_spreadMarks_49 rfl ?_
        exact ih (k + 1) u43 _ _ _ (by omega) (by rw [w43]; exact hp_mk_from hZ (fun q => (hZ2 _ (hp_in_lt hin (by decide))).1 q) (hZ2 _ (hp_in_lt hin (by decide))).2) (by rw [w43]; exact hp_ok_from hZ2) (by rw [hq, w43, hp_spreadN, if_neg h7]) (lv_sub hl [0, 2] rfl) hP hD hS
  exact loop 256 0 (st, fi, se, fc, mk, re, fr, rd, rc) _ _ _ (by omega) (by exact hm) (by exact ho) (by rfl) hl hP hD hS
set_option maxHeartbeats 4000000 in
set_option maxRecDepth 100000 in
theorem c_Heap_freeUnreached (l : Launch) (dC : Nat → ClassId) (dI : Nat → Nat → Nat) (cA : ClassId)  (ad : Nat → Nat) (sz : Nat) (S : ZHS)   : Met l y_Heap_freeUnreached w_Heap_freeUnreached ({ frames := 0, cells := 0, slots := 0, locals := 0 } : Room) (va_Pc [.ref (ad 0)] (lm_pre (dC, dI) classes [(cA, .int)] (hp_W cA ad S) sz lm_no)) (va_Qv (fun (u : ZHS) => u = hp_sweep S) (fun u => lm_at (dC, dI) classes [(cA, .int)] (va_A (hp_W cA ad S) sz) (hp_W cA ad u)) (va_A (hp_W cA ad S) sz)) 0 0 (va_A (hp_W cA ad S) sz) := by
  obtain ⟨st, fi, se, fc, mk, re, fr, rd, rc⟩ := S
  refine lm_met (fun A => va_Qv (fun (u : ZHS) => u = hp_sweep (st, fi, se, fc, mk, re, fr, rd, rc)) (fun u => lm_at (dC, dI) classes [(cA, .int)] A (hp_W cA ad u)) A) (by decide) rfl (Nat.le_of_ble_eq_true rfl) ?_
  intro p e s m below meth c A hx hb hr hts hown hlocks hname hml hK hP hD hA hE hsz hAe hS ls hl
  replace hl : lv_has ls 2 [(0, .ref (ad 0))] := hl
  clear hAe hsz
  refine lv_aload_n hx hb d_Heap_freeUnreached_0 rfl (lv_at hl 0 rfl) ?_
  refine lv_iconst (v := 0) hx hb d_Heap_freeUnreached_1 (by decide) ?_
  refine va_put (D := (dC, dI)) (ci := 1) (v := .int 0) (ty := .int) (C := R_Heap) (T := F_Heap) (N := 9) hx hb hts (fun q hq => List.mem_cons_of_mem _ (i_Heap q hq)) t_Heap t_Heap_ok n_Heap hown hK hP hD hS 0 rfl rfl 6 (by decide) (hts _ (List.mem_cons_of_mem _ m_1_3)) (fun _ h9 => h9) rfl (by decide +kernel) rfl rfl (Nat.le_of_ble_eq_true rfl) d_Heap_freeUnreached_2 (fun H locs hP hD hS => ?_)
  have hP : va_P (dC, dI) classes (hp_W cA ad (st, fi, se, fc, mk, re, 0, rd, rc)) H := hP
  have hD : va_D A (hp_W cA ad (st, fi, se, fc, mk, re, 0, rd, rc)) := hD
  refine lv_iconst (v := 0) hx hb d_Heap_freeUnreached_5 (by decide) ?_
  refine lv_istore_n (lv' := [(1, .int 0), (0, .ref (ad 0))]) hx hb d_Heap_freeUnreached_6 rfl hl (by decide) rfl (fun ls hl => ?_)
  have loop : ∀ (fu : Nat) (k f : Nat) (Z : ZHS) (ls : Array Slot) (H : Heap) (locs : List Loc), (k + fu = 256) → (f ≤ k) → (h_fr Z = nI f) → (hp_sweep (st, fi, se, fc, mk, re, fr, rd, rc) = hp_sweepN fu k Z) → lv_has ls 2 [(1, .int (nI k)), (0, .ref (ad 0))] → va_P (dC, dI) classes (hp_W cA ad Z) H → va_D A (hp_W cA ad Z) → va_S A s.heap H locs → W p l e (headSpec w_Heap_freeUnreached ({ frames := 0, cells := 0, slots := 0, locals := 0 } : Room)).room s m (List.toArray [.ref (ad 0)]) below meth c H locs 0 0 (MQ below (va_Qv (fun (u : ZHS) => u = hp_sweep (st, fi, se, fc, mk, re, fr, rd, rc)) (fun u => lm_at (dC, dI) classes [(cA, .int)] A (hp_W cA ad u)) A) (List.toArray [.ref (ad 0)]) s 0 0 A) (F0 m 7 ls []) := by
    intro fu
    induction fu with
    | zero => 
      intro k f Z ls H locs hk hf hfr hq hl hP hD hS
      refine lv_iload_n hx hb d_Heap_freeUnreached_7 rfl (lv_at hl 0 rfl) ?_
      refine lv_sipush (v := 256) hx hb d_Heap_freeUnreached_8 (by decide) ?_
      refine lv_icmp_ge hx hb d_Heap_freeUnreached_11 rfl (fun h11 => ?_) (fun h11 => by exact absurd (show (256 : Int32) ≤ nI k from nI_le (a := 256) (by omega) (by omega)) h11)
      refine lm_rv hx hb hr hlocks Z ?_ hP hK hD hS d_Heap_freeUnreached_53
      rw [hq, hp_sweepN]
    | succ fu ih => 
      intro k f Z ls H locs hk hf hfr hq hl hP hD hS
      refine lv_iload_n hx hb d_Heap_freeUnreached_7 rfl (lv_at hl 0 rfl) ?_
      refine lv_sipush (v := 256) hx hb d_Heap_freeUnreached_8 (by decide) ?_
      refine lv_icmp_ge hx hb d_Heap_freeUnreached_11 rfl (fun h11 => by exact absurd h11 (nI_ge (b := 256) (by omega) (by decide))) (fun h11 => ?_)
      refine lv_aload_n hx hb d_Heap_freeUnreached_14 rfl (lv_at hl 1 rfl) ?_
      refine va_get (D := (dC, dI)) (ci := 1) (v := .ref (ad 5)) (C := R_Heap) (T := F_Heap) (N := 9) hx hb hts (fun q hq => List.mem_cons_of_mem _ (i_Heap q hq)) hown hK hP 0 rfl rfl 4 (by decide) (hts _ (List.mem_cons_of_mem _ m_1_1)) (fun _ h9 => h9) rfl d_Heap_freeUnreached_15 ?_
      refine lv_iload_n hx hb d_Heap_freeUnreached_18 rfl (lv_at hl 0 rfl) ?_
      have hin : vp_in (nI k) 256 := by exact vp_in_nI (by omega) (by decide)
      refine va_iald (f := Z.2.2.2.2.1) (n := 256) hx hb hK hP 5 0 rfl rfl hin d_Heap_freeUnreached_19 ?_
      rw [nI_clamp (show k < 2 ^ 31 by omega)]
      refine lv_aload_n hx hb d_Heap_freeUnreached_20 rfl (lv_at hl 1 rfl) ?_
      refine va_get (D := (dC, dI)) (ci := 1) (v := .int Z.2.2.2.2.2.2.2.1) (C := R_Heap) (T := F_Heap) (N := 9) hx hb hts (fun q hq => List.mem_cons_of_mem _ (i_Heap q hq)) hown hK hP 0 rfl rfl 7 (by decide) (hts _ (List.mem_cons_of_mem _ m_1_4)) (fun _ h9 => h9) rfl d_Heap_freeUnreached_21 ?_
      refine lv_icmp_eq hx hb d_Heap_freeUnreached_24 rfl (fun h24 => ?_) (fun h24 => ?_)
      · refine lv_iinc (k := 0) (v := (nI (k + 1))) (lv' := [(1, .int (nI (k + 1))), (0, .ref (ad 0))]) hx hb d_Heap_freeUnreached_47 hl rfl ((nI_succ k).symm) (by decide) rfl (fun ls hl => ?_)
        refine lv_goto hx hb d_Heap_freeUnreached_50 rfl ?_
        exact ih (k + 1) f Z _ _ _ (by omega) (by omega) (by exact hfr) (by rw [hq, hp_sweepN, if_pos h24]) (lv_sub hl [0, 1] rfl) hP hD hS
      · refine lv_aload_n hx hb d_Heap_freeUnreached_27 rfl (lv_at hl 1 rfl) ?_
        refine va_get (D := (dC, dI)) (ci := 1) (v := .ref (ad 4)) (C := R_Heap) (T := F_Heap) (N := 9) hx hb hts (fun q hq => List.mem_cons_of_mem _ (i_Heap q hq)) hown hK hP 0 rfl rfl 3 (by decide) (hts _ (List.mem_cons_of_mem _ m_1_0)) (fun _ h9 => h9) rfl d_Heap_freeUnreached_28 ?_
        refine lv_aload_n hx hb d_Heap_freeUnreached_31 rfl (lv_at hl 1 rfl) ?_
        refine va_get (D := (dC, dI)) (ci := 1) (v := .int Z.2.2.2.2.2.2.1) (C := R_Heap) (T := F_Heap) (N := 9) hx hb hts (fun q hq => List.mem_cons_of_mem _ (i_Heap q hq)) hown hK hP 0 rfl rfl 6 (by decide) (hts _ (List.mem_cons_of_mem _ m_1_3)) (fun _ h9 => h9) rfl d_Heap_freeUnreached_32 ?_
        refine lv_iload_n hx hb d_Heap_freeUnreached_35 rfl (lv_at hl 0 rfl) ?_
        have hin : vp_in Z.2.2.2.2.2.2.1 256 := by rw [show Z.2.2.2.2.2.2.1 = nI f from hfr]; exact vp_in_nI (by omega) (by decide)
        refine va_iast (f := Z.2.2.2.1) (n := 256) hx hb hK hP hD hS 4 0 rfl rfl hin d_Heap_freeUnreached_36 (fun H locs hP hD hS => ?_)
        have hP : va_P (dC, dI) classes (hp_W cA ad (Z.1, Z.2.1, Z.2.2.1, (upd Z.2.2.2.1 Z.2.2.2.2.2.2.1.toNatClampNeg (nI k)), Z.2.2.2.2.1, Z.2.2.2.2.2.1, Z.2.2.2.2.2.2.1, Z.2.2.2.2.2.2.2.1, Z.2.2.2.2.2.2.2.2)) H := hP
        have hD : va_D A (hp_W cA ad (Z.1, Z.2.1, Z.2.2.1, (upd Z.2.2.2.1 Z.2.2.2.2.2.2.1.toNatClampNeg (nI k)), Z.2.2.2.2.1, Z.2.2.2.2.2.1, Z.2.2.2.2.2.2.1, Z.2.2.2.2.2.2.2.1, Z.2.2.2.2.2.2.2.2)) := hD
        refine lv_aload_n hx hb d_Heap_freeUnreached_37 rfl (lv_at hl 1 rfl) ?_
        refine lv_dup hx hb d_Heap_freeUnreached_38 rfl ?_
        refine va_get (D := (dC, dI)) (ci := 1) (v := .int Z.2.2.2.2.2.2.1) (C := R_Heap) (T := F_Heap) (N := 9) hx hb hts (fun q hq => List.mem_cons_of_mem _ (i_Heap q hq)) hown hK hP 0 rfl rfl 6 (by decide) (hts _ (List.mem_cons_of_mem _ m_1_3)) (fun _ h9 => h9) rfl d_Heap_freeUnreached_39 ?_
        refine lv_iconst (v := 1) hx hb d_Heap_freeUnreached_42 (by decide) ?_
        refine lv_iadd hx hb d_Heap_freeUnreached_43 ?_
        refine va_put (D := (dC, dI)) (ci := 1) (v := .int (Z.2.2.2.2.2.2.1 + 1)) (ty := .int) (C := R_Heap) (T := F_Heap) (N := 9) hx hb hts (fun q hq => List.mem_cons_of_mem _ (i_Heap q hq)) t_Heap t_Heap_ok n_Heap hown hK hP hD hS 0 rfl rfl 6 (by decide) (hts _ (List.mem_cons_of_mem _ m_1_3)) (fun _ h9 => h9) rfl (by decide +kernel) rfl rfl (Nat.le_of_ble_eq_true rfl) d_Heap_freeUnreached_44 (fun H locs hP hD hS => ?_)
        have hP : va_P (dC, dI) classes (hp_W cA ad (Z.1, Z.2.1, Z.2.2.1, (upd Z.2.2.2.1 Z.2.2.2.2.2.2.1.toNatClampNeg (nI k)), Z.2.2.2.2.1, Z.2.2.2.2.2.1, (Z.2.2.2.2.2.2.1 + 1), Z.2.2.2.2.2.2.2.1, Z.2.2.2.2.2.2.2.2)) H := hP
        have hD : va_D A (hp_W cA ad (Z.1, Z.2.1, Z.2.2.1, (upd Z.2.2.2.1 Z.2.2.2.2.2.2.1.toNatClampNeg (nI k)), Z.2.2.2.2.1, Z.2.2.2.2.2.1, (Z.2.2.2.2.2.2.1 + 1), Z.2.2.2.2.2.2.2.1, Z.2.2.2.2.2.2.2.2)) := hD
        refine lv_iinc (k := 0) (v := (nI (k + 1))) (lv' := [(1, .int (nI (k + 1))), (0, .ref (ad 0))]) hx hb d_Heap_freeUnreached_47 hl rfl ((nI_succ k).symm) (by decide) rfl (fun ls hl => ?_)
        refine lv_goto hx hb d_Heap_freeUnreached_50 rfl ?_
        exact ih (k + 1) (f + 1) (Z.1, Z.2.1, Z.2.2.1, (upd Z.2.2.2.1 Z.2.2.2.2.2.2.1.toNatClampNeg (nI k)), Z.2.2.2.2.1, Z.2.2.2.2.2.1, (Z.2.2.2.2.2.2.1 + 1), Z.2.2.2.2.2.2.2.1, Z.2.2.2.2.2.2.2.2) _ _ _ (by omega) (by omega) (by show h_fr Z + 1 = nI (f + 1); rw [hfr]; exact (nI_succ f).symm) (by rw [hq, hp_sweepN, if_neg h24]) (lv_sub hl [0, 1] rfl) hP hD hS
  exact loop 256 0 0 (st, fi, se, fc, mk, re, 0, rd, rc) _ _ _ (by omega) (by omega) (by rfl) (by rfl) hl hP hD hS
set_option maxHeartbeats 4000000 in
set_option maxRecDepth 100000 in
theorem c_Heap_empty (l : Launch) (dC : Nat → ClassId) (dI : Nat → Nat → Nat) (cA : ClassId)  (ad : Nat → Nat) (sz : Nat) (S : ZHS)   : Met l y_Heap_empty w_Heap_empty ({ frames := 1, cells := 0, slots := 0, locals := 21 } : Room) (va_Pc [.ref (ad 0)] (lm_pre (dC, dI) classes [(cA, .int)] (hp_W cA ad S) sz lm_no)) (va_Qv (fun (u : ZHS) => u = hp_sweep (hp_begin S)) (fun u => lm_at (dC, dI) classes [(cA, .int)] (va_A (hp_W cA ad S) sz) (hp_W cA ad u)) (va_A (hp_W cA ad S) sz)) 0 0 (va_A (hp_W cA ad S) sz) := by
  obtain ⟨st, fi, se, fc, mk, re, fr, rd, rc⟩ := S
  refine lm_met (fun A => va_Qv (fun (u : ZHS) => u = hp_sweep (hp_begin (st, fi, se, fc, mk, re, fr, rd, rc))) (fun u => lm_at (dC, dI) classes [(cA, .int)] A (hp_W cA ad u)) A) (by decide) rfl (Nat.le_of_ble_eq_true rfl) ?_
  intro p e s m below meth c A hx hb hr hts hown hlocks hname hml hK hP hD hA hE hsz hAe hS ls hl
  replace hl : lv_has ls 1 [(0, .ref (ad 0))] := hl
  clear hAe hsz
  refine lv_aload_n hx hb d_Heap_empty_0 rfl (lv_at hl 0 rfl) ?_
  refine lm_vv (b := ad 0) (As := []) (rest := []) (wr := ([] : va_W)) ⟨hx, hb, hml, hown, hts⟩ hK hP hD hS hA [0, 1, 2, 3, 4, 5, 6] [] rfl rfl (by decide) (by decide) (by decide) (c_Heap_beginMarks l dC dI cA ad _ (st, fi, se, fc, mk, re, fr, rd, rc)  ) (cwV 0 hts (lm_gV m_3_21 m_3_22 m_3_23 m_0_2 m_4_0) rfl rfl rfl (by decide +kernel) ⟨Nat.le_of_ble_eq_true rfl, Nat.le_of_ble_eq_true rfl⟩) (va_recv (q0 := 0) hK hP rfl rfl) lm_bl_no (fun _ _ _ => trivial) hl.1 rfl rfl (Nat.le_of_ble_eq_true rfl) d_Heap_empty_1 ⟨Nat.le_of_ble_eq_true rfl, Nat.le_of_ble_eq_true rfl⟩ (fun u1 H locs w1 hP hD hS => ?_)
  have hP : va_P (dC, dI) classes (hp_W cA ad u1) H := hP
  have hD : va_D A (hp_W cA ad u1) := hD
  refine lv_aload_n hx hb d_Heap_empty_4 rfl (lv_at hl 0 rfl) ?_
  refine lm_vv (b := ad 0) (As := []) (rest := []) (wr := ([] : va_W)) ⟨hx, hb, hml, hown, hts⟩ hK hP hD hS hA [0, 1, 2, 3, 4, 5, 6] [] rfl rfl (by decide) (by decide) (by decide) (c_Heap_freeUnreached l dC dI cA ad _ u1  ) (cwV 0 hts (lm_gV m_4_1 m_4_2 m_4_3 m_0_2 m_4_4) rfl rfl rfl (by decide +kernel) ⟨Nat.le_of_ble_eq_true rfl, Nat.le_of_ble_eq_true rfl⟩) (va_recv (q0 := 0) hK hP rfl rfl) lm_bl_no (fun _ _ _ => trivial) hl.1 rfl rfl (Nat.le_of_ble_eq_true rfl) d_Heap_empty_5 ⟨Nat.le_of_ble_eq_true rfl, Nat.le_of_ble_eq_true rfl⟩ (fun u5 H locs w5 hP hD hS => ?_)
  have hP : va_P (dC, dI) classes (hp_W cA ad u5) H := hP
  have hD : va_D A (hp_W cA ad u5) := hD
  refine lm_rv hx hb hr hlocks u5 ?_ hP hK hD hS d_Heap_empty_8
  rw [w5, w1]
set_option maxHeartbeats 4000000 in
set_option maxRecDepth 100000 in
theorem c_Heap_boundTo (l : Launch) (dC : Nat → ClassId) (dI : Nat → Nat → Nat) (cA : ClassId)  (ad : Nat → Nat) (sz : Nat) (S : ZHS) (x1 x2 : Int32) (hx1 : hp_c x1) (hx2 : ∃ n : Nat, n < 1000 ∧ x2 = nI n) (hs : ∀ j, j < 256 → hp_c (h_se S j)) : Met l y_Heap_boundTo w_Heap_boundTo ({ frames := 1, cells := 0, slots := 0, locals := 21 } : Room) (va_Pc [.ref (ad 0), .int x1, .int x2] (lm_pre (dC, dI) classes [(cA, .int)] (hp_W cA ad S) sz lm_no)) (va_Qi (fun (r : Int32) (u : ZHS) => r = hp_bound S x1 x2 ∧ u = S) (fun u => lm_at (dC, dI) classes [(cA, .int)] (va_A (hp_W cA ad S) sz) (hp_W cA ad u)) (va_A (hp_W cA ad S) sz)) 0 0 (va_A (hp_W cA ad S) sz) := by
  obtain ⟨st, fi, se, fc, mk, re, fr, rd, rc⟩ := S
  obtain ⟨n, hn, rfl⟩ := hx2
  have hs : ∀ j, j < 256 → hp_c (se j) := hs
  refine lm_met (fun A => va_Qi (fun (r : Int32) (u : ZHS) => r = hp_bound (st, fi, se, fc, mk, re, fr, rd, rc) x1 (nI n) ∧ u = (st, fi, se, fc, mk, re, fr, rd, rc)) (fun u => lm_at (dC, dI) classes [(cA, .int)] A (hp_W cA ad u)) A) (by decide) rfl (Nat.le_of_ble_eq_true rfl) ?_
  intro p e s m below meth c A hx hb hr hts hown hlocks hname hml hK hP hD hA hE hsz hAe hS ls hl
  replace hl : lv_has ls 5 [(0, .ref (ad 0)), (1, .int x1), (2, .int (nI n))] := hl
  clear hAe hsz
  refine lv_iload_n hx hb d_Heap_boundTo_0 rfl (lv_at hl 1 rfl) ?_
  refine lv_istore_n (lv' := [(3, .int x1), (0, .ref (ad 0)), (1, .int x1), (2, .int (nI n))]) hx hb d_Heap_boundTo_1 rfl hl (by decide) rfl (fun ls hl => ?_)
  refine lv_iconst (v := 0) hx hb d_Heap_boundTo_2 (by decide) ?_
  refine lv_istore (lv' := [(4, .int 0), (3, .int x1), (0, .ref (ad 0)), (1, .int x1), (2, .int (nI n))]) hx hb d_Heap_boundTo_3 hl (by decide) rfl (fun ls hl => ?_)
  have loop : ∀ (fu : Nat) (k : Nat) (y : Int32) (ls : Array Slot) (H : Heap) (locs : List Loc), (k + fu = n) → (hp_c y) → (hp_walk se n x1 = hp_walk se fu y) → lv_has ls 5 [(4, .int (nI k)), (3, .int y), (0, .ref (ad 0)), (1, .int x1), (2, .int (nI n))] → va_P (dC, dI) classes (hp_W cA ad (st, fi, se, fc, mk, re, fr, rd, rc)) H → va_D A (hp_W cA ad (st, fi, se, fc, mk, re, fr, rd, rc)) → va_S A s.heap H locs → W p l e (headSpec w_Heap_boundTo ({ frames := 1, cells := 0, slots := 0, locals := 21 } : Room)).room s m (List.toArray [.ref (ad 0), .int x1, .int (nI n)]) below meth c H locs 0 0 (MQ below (va_Qi (fun (r : Int32) (u : ZHS) => r = hp_bound (st, fi, se, fc, mk, re, fr, rd, rc) x1 (nI n) ∧ u = (st, fi, se, fc, mk, re, fr, rd, rc)) (fun u => lm_at (dC, dI) classes [(cA, .int)] A (hp_W cA ad u)) A) (List.toArray [.ref (ad 0), .int x1, .int (nI n)]) s 0 0 A) (F0 m 5 ls []) := by
    intro fu
    induction fu with
    | zero => 
      intro k y ls H locs hk hy hq hl hP hD hS
      refine lv_iload hx hb d_Heap_boundTo_5 (lv_at hl 0 rfl) ?_
      refine lv_iload_n hx hb d_Heap_boundTo_7 rfl (lv_at hl 4 rfl) ?_
      refine lv_icmp_ge hx hb d_Heap_boundTo_8 rfl (fun h8 => ?_) (fun h8 => by exact absurd (nI_le (by omega) (by omega)) h8)
      refine lv_aload_n hx hb d_Heap_boundTo_29 rfl (lv_at hl 2 rfl) ?_
      refine lv_iload_n hx hb d_Heap_boundTo_30 rfl (lv_at hl 1 rfl) ?_
      refine lm_vi (b := ad 0) (As := [.int y]) (rest := []) (wr := ([] : va_W)) ⟨hx, hb, hml, hown, hts⟩ hK hP hD hS hA [0, 1, 2, 3, 4, 5, 6] [] rfl rfl (by decide) (by decide) (by decide) (c_Heap_first l dC dI cA ad _ (st, fi, se, fc, mk, re, fr, rd, rc) y (by exact hy)) (cwV 1 hts (lm_gV m_11_19 m_11_0 m_11_1 m_0_2 m_11_2) rfl rfl rfl (by decide +kernel) ⟨Nat.le_of_ble_eq_true rfl, Nat.le_of_ble_eq_true rfl⟩) (va_recv (q0 := 0) hK hP rfl rfl) lm_bl_no (fun _ _ _ => trivial) hl.1 rfl rfl (Nat.le_of_ble_eq_true rfl) d_Heap_boundTo_31 ⟨Nat.le_of_ble_eq_true rfl, Nat.le_of_ble_eq_true rfl⟩ (fun r31 u31 H locs w31 hP hD hS => ?_)
      obtain ⟨e_r31, w31⟩ := w31
      replace w31 := w31.symm
      subst w31
      have hP : va_P (dC, dI) classes (hp_W cA ad (st, fi, se, fc, mk, re, fr, rd, rc)) H := hP
      have hD : va_D A (hp_W cA ad (st, fi, se, fc, mk, re, fr, rd, rc)) := hD
      refine lm_ri (v := r31) hx hb hr hlocks (st, fi, se, fc, mk, re, fr, rd, rc) ?_ hP hK hD hS d_Heap_boundTo_34
      refine ⟨?_, rfl⟩; rw [e_r31]; unfold hp_bound; rw [nI_clamp (by omega)]; show _ = hp_first _ (hp_walk se n x1); rw [hq]; first | (rw [hp_walk, if_pos h13]) | rfl
    | succ fu ih => 
      intro k y ls H locs hk hy hq hl hP hD hS
      refine lv_iload hx hb d_Heap_boundTo_5 (lv_at hl 0 rfl) ?_
      refine lv_iload_n hx hb d_Heap_boundTo_7 rfl (lv_at hl 4 rfl) ?_
      refine lv_icmp_ge hx hb d_Heap_boundTo_8 rfl (fun h8 => by exact absurd h8 (nI_ge (by omega) (by omega))) (fun h8 => ?_)
      refine lv_iload_n hx hb d_Heap_boundTo_11 rfl (lv_at hl 1 rfl) ?_
      refine lv_iconst (v := -1) hx hb d_Heap_boundTo_12 (by decide) ?_
      refine lv_icmp_eq hx hb d_Heap_boundTo_13 rfl (fun h13 => ?_) (fun h13 => ?_)
      · refine lv_aload_n hx hb d_Heap_boundTo_29 rfl (lv_at hl 2 rfl) ?_
        refine lv_iload_n hx hb d_Heap_boundTo_30 rfl (lv_at hl 1 rfl) ?_
        refine lm_vi (b := ad 0) (As := [.int y]) (rest := []) (wr := ([] : va_W)) ⟨hx, hb, hml, hown, hts⟩ hK hP hD hS hA [0, 1, 2, 3, 4, 5, 6] [] rfl rfl (by decide) (by decide) (by decide) (c_Heap_first l dC dI cA ad _ (st, fi, se, fc, mk, re, fr, rd, rc) y (by exact hy)) (cwV 1 hts (lm_gV m_11_19 m_11_0 m_11_1 m_0_2 m_11_2) rfl rfl rfl (by decide +kernel) ⟨Nat.le_of_ble_eq_true rfl, Nat.le_of_ble_eq_true rfl⟩) (va_recv (q0 := 0) hK hP rfl rfl) lm_bl_no (fun _ _ _ => trivial) hl.1 rfl rfl (Nat.le_of_ble_eq_true rfl) d_Heap_boundTo_31 ⟨Nat.le_of_ble_eq_true rfl, Nat.le_of_ble_eq_true rfl⟩ (fun r31 u31 H locs w31 hP hD hS => ?_)
        obtain ⟨e_r31, w31⟩ := w31
        replace w31 := w31.symm
        subst w31
        have hP : va_P (dC, dI) classes (hp_W cA ad (st, fi, se, fc, mk, re, fr, rd, rc)) H := hP
        have hD : va_D A (hp_W cA ad (st, fi, se, fc, mk, re, fr, rd, rc)) := hD
        refine lm_ri (v := r31) hx hb hr hlocks (st, fi, se, fc, mk, re, fr, rd, rc) ?_ hP hK hD hS d_Heap_boundTo_34
        refine ⟨?_, rfl⟩; rw [e_r31]; unfold hp_bound; rw [nI_clamp (by omega)]; show _ = hp_first _ (hp_walk se n x1); rw [hq]; first | (rw [hp_walk, if_pos h13]) | rfl
      · refine lv_aload_n hx hb d_Heap_boundTo_16 rfl (lv_at hl 2 rfl) ?_
        refine va_get (D := (dC, dI)) (ci := 1) (v := .ref (ad 3)) (C := R_Heap) (T := F_Heap) (N := 9) hx hb hts (fun q hq => List.mem_cons_of_mem _ (i_Heap q hq)) hown hK hP 0 rfl rfl 2 (by decide) (hts _ (List.mem_cons_of_mem _ m_0_23)) (fun _ h9 => h9) rfl d_Heap_boundTo_17 ?_
        refine lv_iload_n hx hb d_Heap_boundTo_20 rfl (lv_at hl 1 rfl) ?_
        have hin : vp_in y 256 := by exact hy.resolve_left h13
        refine va_iald (f := se) (n := 256) hx hb hK hP 3 0 rfl rfl hin d_Heap_boundTo_21 ?_
        refine lv_istore_n (lv' := [(3, .int (se y.toNatClampNeg)), (4, .int (nI k)), (0, .ref (ad 0)), (1, .int x1), (2, .int (nI n))]) hx hb d_Heap_boundTo_22 rfl hl (by decide) rfl (fun ls hl => ?_)
        refine lv_iinc (k := 1) (v := (nI (k + 1))) (lv' := [(4, .int (nI (k + 1))), (3, .int (se y.toNatClampNeg)), (0, .ref (ad 0)), (1, .int x1), (2, .int (nI n))]) hx hb d_Heap_boundTo_23 hl rfl ((nI_succ k).symm) (by decide) rfl (fun ls hl => ?_)
        refine lv_goto hx hb d_Heap_boundTo_26 rfl ?_
        exact ih (k + 1) (se y.toNatClampNeg) _ _ _ (by omega) (by exact hs _ (hp_in_lt (hy.resolve_left h13) (by decide))) (by rw [hq, hp_walk, if_neg h13]) (lv_sub hl [0, 1, 2, 3, 4] rfl) hP hD hS
  exact loop n 0 x1 _ _ _ (by omega) (by exact hx1) (by rfl) hl hP hD hS
end
section
theorem d_Pile_empty_0 : decode b_Pile_empty 0 = .ok (.aload_n 0, 1) := by decide +kernel
theorem d_Pile_empty_1 : decode b_Pile_empty 1 = .ok (.iconst 0, 1) := by decide +kernel
theorem d_Pile_empty_2 : decode b_Pile_empty 2 = .ok (.putfield 21, 3) := by decide +kernel
theorem d_Pile_empty_5 : decode b_Pile_empty 5 = .ok (.aload_n 0, 1) := by decide +kernel
theorem d_Pile_empty_6 : decode b_Pile_empty 6 = .ok (.iconst 0, 1) := by decide +kernel
theorem d_Pile_empty_7 : decode b_Pile_empty 7 = .ok (.putfield 25, 3) := by decide +kernel
theorem d_Pile_empty_10 : decode b_Pile_empty 10 = .ok (.return_, 1) := by decide +kernel
theorem d_Pile_size_0 : decode b_Pile_size 0 = .ok (.aload_n 0, 1) := by decide +kernel
theorem d_Pile_size_1 : decode b_Pile_size 1 = .ok (.getfield 21, 3) := by decide +kernel
theorem d_Pile_size_4 : decode b_Pile_size 4 = .ok (.ireturn, 1) := by decide +kernel
theorem d_Pile_most_0 : decode b_Pile_most 0 = .ok (.aload_n 0, 1) := by decide +kernel
theorem d_Pile_most_1 : decode b_Pile_most 1 = .ok (.getfield 25, 3) := by decide +kernel
theorem d_Pile_most_4 : decode b_Pile_most 4 = .ok (.ireturn, 1) := by decide +kernel
theorem d_Pile_isFull_0 : decode b_Pile_isFull 0 = .ok (.aload_n 0, 1) := by decide +kernel
theorem d_Pile_isFull_1 : decode b_Pile_isFull 1 = .ok (.getfield 21, 3) := by decide +kernel
theorem d_Pile_isFull_4 : decode b_Pile_isFull 4 = .ok (.sipush 200, 3) := by decide +kernel
theorem d_Pile_isFull_7 : decode b_Pile_isFull 7 = .ok (.if_icmp .ne 7, 3) := by decide +kernel
theorem d_Pile_isFull_10 : decode b_Pile_isFull 10 = .ok (.iconst 1, 1) := by decide +kernel
theorem d_Pile_isFull_11 : decode b_Pile_isFull 11 = .ok (.goto 4, 3) := by decide +kernel
theorem d_Pile_isFull_14 : decode b_Pile_isFull 14 = .ok (.iconst 0, 1) := by decide +kernel
theorem d_Pile_isFull_15 : decode b_Pile_isFull 15 = .ok (.ireturn, 1) := by decide +kernel
theorem d_Pile_add_0 : decode b_Pile_add 0 = .ok (.aload_n 0, 1) := by decide +kernel
theorem d_Pile_add_1 : decode b_Pile_add 1 = .ok (.invokevirtual 28, 3) := by decide +kernel
theorem d_Pile_add_4 : decode b_Pile_add 4 = .ok (.ifCond .eq 4, 3) := by decide +kernel
theorem d_Pile_add_7 : decode b_Pile_add 7 = .ok (.return_, 1) := by decide +kernel
theorem d_Pile_add_8 : decode b_Pile_add 8 = .ok (.aload_n 0, 1) := by decide +kernel
theorem d_Pile_add_9 : decode b_Pile_add 9 = .ok (.getfield 9, 3) := by decide +kernel
theorem d_Pile_add_12 : decode b_Pile_add 12 = .ok (.aload_n 0, 1) := by decide +kernel
theorem d_Pile_add_13 : decode b_Pile_add 13 = .ok (.getfield 21, 3) := by decide +kernel
theorem d_Pile_add_16 : decode b_Pile_add 16 = .ok (.iload_n 1, 1) := by decide +kernel
theorem d_Pile_add_17 : decode b_Pile_add 17 = .ok (.iastore, 1) := by decide +kernel
theorem d_Pile_add_18 : decode b_Pile_add 18 = .ok (.aload_n 0, 1) := by decide +kernel
theorem d_Pile_add_19 : decode b_Pile_add 19 = .ok (.getfield 15, 3) := by decide +kernel
theorem d_Pile_add_22 : decode b_Pile_add 22 = .ok (.aload_n 0, 1) := by decide +kernel
theorem d_Pile_add_23 : decode b_Pile_add 23 = .ok (.getfield 21, 3) := by decide +kernel
theorem d_Pile_add_26 : decode b_Pile_add 26 = .ok (.iload_n 2, 1) := by decide +kernel
theorem d_Pile_add_27 : decode b_Pile_add 27 = .ok (.iastore, 1) := by decide +kernel
theorem d_Pile_add_28 : decode b_Pile_add 28 = .ok (.aload_n 0, 1) := by decide +kernel
theorem d_Pile_add_29 : decode b_Pile_add 29 = .ok (.getfield 18, 3) := by decide +kernel
theorem d_Pile_add_32 : decode b_Pile_add 32 = .ok (.aload_n 0, 1) := by decide +kernel
theorem d_Pile_add_33 : decode b_Pile_add 33 = .ok (.getfield 21, 3) := by decide +kernel
theorem d_Pile_add_36 : decode b_Pile_add 36 = .ok (.iload_n 3, 1) := by decide +kernel
theorem d_Pile_add_37 : decode b_Pile_add 37 = .ok (.iastore, 1) := by decide +kernel
theorem d_Pile_add_38 : decode b_Pile_add 38 = .ok (.aload_n 0, 1) := by decide +kernel
theorem d_Pile_add_39 : decode b_Pile_add 39 = .ok (.dup, 1) := by decide +kernel
theorem d_Pile_add_40 : decode b_Pile_add 40 = .ok (.getfield 21, 3) := by decide +kernel
theorem d_Pile_add_43 : decode b_Pile_add 43 = .ok (.iconst 1, 1) := by decide +kernel
theorem d_Pile_add_44 : decode b_Pile_add 44 = .ok (.iadd, 1) := by decide +kernel
theorem d_Pile_add_45 : decode b_Pile_add 45 = .ok (.putfield 21, 3) := by decide +kernel
theorem d_Pile_add_48 : decode b_Pile_add 48 = .ok (.aload_n 0, 1) := by decide +kernel
theorem d_Pile_add_49 : decode b_Pile_add 49 = .ok (.aload_n 0, 1) := by decide +kernel
theorem d_Pile_add_50 : decode b_Pile_add 50 = .ok (.getfield 25, 3) := by decide +kernel
theorem d_Pile_add_53 : decode b_Pile_add 53 = .ok (.aload_n 0, 1) := by decide +kernel
theorem d_Pile_add_54 : decode b_Pile_add 54 = .ok (.getfield 21, 3) := by decide +kernel
theorem d_Pile_add_57 : decode b_Pile_add 57 = .ok (.invokestatic 32, 3) := by decide +kernel
theorem d_Pile_add_60 : decode b_Pile_add 60 = .ok (.putfield 25, 3) := by decide +kernel
theorem d_Pile_add_63 : decode b_Pile_add 63 = .ok (.return_, 1) := by decide +kernel
theorem d_Pile_drop_0 : decode b_Pile_drop 0 = .ok (.aload_n 0, 1) := by decide +kernel
theorem d_Pile_drop_1 : decode b_Pile_drop 1 = .ok (.getfield 21, 3) := by decide +kernel
theorem d_Pile_drop_4 : decode b_Pile_drop 4 = .ok (.ifCond .le 13, 3) := by decide +kernel
theorem d_Pile_drop_7 : decode b_Pile_drop 7 = .ok (.aload_n 0, 1) := by decide +kernel
theorem d_Pile_drop_8 : decode b_Pile_drop 8 = .ok (.dup, 1) := by decide +kernel
theorem d_Pile_drop_9 : decode b_Pile_drop 9 = .ok (.getfield 21, 3) := by decide +kernel
theorem d_Pile_drop_12 : decode b_Pile_drop 12 = .ok (.iconst 1, 1) := by decide +kernel
theorem d_Pile_drop_13 : decode b_Pile_drop 13 = .ok (.isub, 1) := by decide +kernel
theorem d_Pile_drop_14 : decode b_Pile_drop 14 = .ok (.putfield 21, 3) := by decide +kernel
theorem d_Pile_drop_17 : decode b_Pile_drop 17 = .ok (.return_, 1) := by decide +kernel
theorem d_Pile_topSort_0 : decode b_Pile_topSort 0 = .ok (.aload_n 0, 1) := by decide +kernel
theorem d_Pile_topSort_1 : decode b_Pile_topSort 1 = .ok (.getfield 21, 3) := by decide +kernel
theorem d_Pile_topSort_4 : decode b_Pile_topSort 4 = .ok (.ifCond .ne 7, 3) := by decide +kernel
theorem d_Pile_topSort_7 : decode b_Pile_topSort 7 = .ok (.iconst (-1), 1) := by decide +kernel
theorem d_Pile_topSort_8 : decode b_Pile_topSort 8 = .ok (.goto 14, 3) := by decide +kernel
theorem d_Pile_topSort_11 : decode b_Pile_topSort 11 = .ok (.aload_n 0, 1) := by decide +kernel
theorem d_Pile_topSort_12 : decode b_Pile_topSort 12 = .ok (.getfield 9, 3) := by decide +kernel
theorem d_Pile_topSort_15 : decode b_Pile_topSort 15 = .ok (.aload_n 0, 1) := by decide +kernel
theorem d_Pile_topSort_16 : decode b_Pile_topSort 16 = .ok (.getfield 21, 3) := by decide +kernel
theorem d_Pile_topSort_19 : decode b_Pile_topSort 19 = .ok (.iconst 1, 1) := by decide +kernel
theorem d_Pile_topSort_20 : decode b_Pile_topSort 20 = .ok (.isub, 1) := by decide +kernel
theorem d_Pile_topSort_21 : decode b_Pile_topSort 21 = .ok (.iaload, 1) := by decide +kernel
theorem d_Pile_topSort_22 : decode b_Pile_topSort 22 = .ok (.ireturn, 1) := by decide +kernel
theorem d_Pile_topFirst_0 : decode b_Pile_topFirst 0 = .ok (.aload_n 0, 1) := by decide +kernel
theorem d_Pile_topFirst_1 : decode b_Pile_topFirst 1 = .ok (.getfield 21, 3) := by decide +kernel
theorem d_Pile_topFirst_4 : decode b_Pile_topFirst 4 = .ok (.ifCond .ne 7, 3) := by decide +kernel
theorem d_Pile_topFirst_7 : decode b_Pile_topFirst 7 = .ok (.iconst (-1), 1) := by decide +kernel
theorem d_Pile_topFirst_8 : decode b_Pile_topFirst 8 = .ok (.goto 14, 3) := by decide +kernel
theorem d_Pile_topFirst_11 : decode b_Pile_topFirst 11 = .ok (.aload_n 0, 1) := by decide +kernel
theorem d_Pile_topFirst_12 : decode b_Pile_topFirst 12 = .ok (.getfield 15, 3) := by decide +kernel
theorem d_Pile_topFirst_15 : decode b_Pile_topFirst 15 = .ok (.aload_n 0, 1) := by decide +kernel
theorem d_Pile_topFirst_16 : decode b_Pile_topFirst 16 = .ok (.getfield 21, 3) := by decide +kernel
theorem d_Pile_topFirst_19 : decode b_Pile_topFirst 19 = .ok (.iconst 1, 1) := by decide +kernel
theorem d_Pile_topFirst_20 : decode b_Pile_topFirst 20 = .ok (.isub, 1) := by decide +kernel
theorem d_Pile_topFirst_21 : decode b_Pile_topFirst 21 = .ok (.iaload, 1) := by decide +kernel
theorem d_Pile_topFirst_22 : decode b_Pile_topFirst 22 = .ok (.ireturn, 1) := by decide +kernel
theorem d_Pile_topSecond_0 : decode b_Pile_topSecond 0 = .ok (.aload_n 0, 1) := by decide +kernel
theorem d_Pile_topSecond_1 : decode b_Pile_topSecond 1 = .ok (.getfield 21, 3) := by decide +kernel
theorem d_Pile_topSecond_4 : decode b_Pile_topSecond 4 = .ok (.ifCond .ne 7, 3) := by decide +kernel
theorem d_Pile_topSecond_7 : decode b_Pile_topSecond 7 = .ok (.iconst (-1), 1) := by decide +kernel
theorem d_Pile_topSecond_8 : decode b_Pile_topSecond 8 = .ok (.goto 14, 3) := by decide +kernel
theorem d_Pile_topSecond_11 : decode b_Pile_topSecond 11 = .ok (.aload_n 0, 1) := by decide +kernel
theorem d_Pile_topSecond_12 : decode b_Pile_topSecond 12 = .ok (.getfield 18, 3) := by decide +kernel
theorem d_Pile_topSecond_15 : decode b_Pile_topSecond 15 = .ok (.aload_n 0, 1) := by decide +kernel
theorem d_Pile_topSecond_16 : decode b_Pile_topSecond 16 = .ok (.getfield 21, 3) := by decide +kernel
theorem d_Pile_topSecond_19 : decode b_Pile_topSecond 19 = .ok (.iconst 1, 1) := by decide +kernel
theorem d_Pile_topSecond_20 : decode b_Pile_topSecond 20 = .ok (.isub, 1) := by decide +kernel
theorem d_Pile_topSecond_21 : decode b_Pile_topSecond 21 = .ok (.iaload, 1) := by decide +kernel
theorem d_Pile_topSecond_22 : decode b_Pile_topSecond 22 = .ok (.ireturn, 1) := by decide +kernel
theorem d_Pile_reachAll_0 : decode b_Pile_reachAll 0 = .ok (.iconst 0, 1) := by decide +kernel
theorem d_Pile_reachAll_1 : decode b_Pile_reachAll 1 = .ok (.istore_n 2, 1) := by decide +kernel
theorem d_Pile_reachAll_2 : decode b_Pile_reachAll 2 = .ok (.iload_n 2, 1) := by decide +kernel
theorem d_Pile_reachAll_3 : decode b_Pile_reachAll 3 = .ok (.aload_n 0, 1) := by decide +kernel
theorem d_Pile_reachAll_4 : decode b_Pile_reachAll 4 = .ok (.getfield 21, 3) := by decide +kernel
theorem d_Pile_reachAll_7 : decode b_Pile_reachAll 7 = .ok (.if_icmp .ge 71, 3) := by decide +kernel
theorem d_Pile_reachAll_10 : decode b_Pile_reachAll 10 = .ok (.aload_n 0, 1) := by decide +kernel
theorem d_Pile_reachAll_11 : decode b_Pile_reachAll 11 = .ok (.getfield 9, 3) := by decide +kernel
theorem d_Pile_reachAll_14 : decode b_Pile_reachAll 14 = .ok (.iload_n 2, 1) := by decide +kernel
theorem d_Pile_reachAll_15 : decode b_Pile_reachAll 15 = .ok (.iaload, 1) := by decide +kernel
theorem d_Pile_reachAll_16 : decode b_Pile_reachAll 16 = .ok (.ifCond .eq 13, 3) := by decide +kernel
theorem d_Pile_reachAll_19 : decode b_Pile_reachAll 19 = .ok (.aload_n 0, 1) := by decide +kernel
theorem d_Pile_reachAll_20 : decode b_Pile_reachAll 20 = .ok (.getfield 9, 3) := by decide +kernel
theorem d_Pile_reachAll_23 : decode b_Pile_reachAll 23 = .ok (.iload_n 2, 1) := by decide +kernel
theorem d_Pile_reachAll_24 : decode b_Pile_reachAll 24 = .ok (.iaload, 1) := by decide +kernel
theorem d_Pile_reachAll_25 : decode b_Pile_reachAll 25 = .ok (.iconst 1, 1) := by decide +kernel
theorem d_Pile_reachAll_26 : decode b_Pile_reachAll 26 = .ok (.if_icmp .ne 16, 3) := by decide +kernel
theorem d_Pile_reachAll_29 : decode b_Pile_reachAll 29 = .ok (.aload_n 1, 1) := by decide +kernel
theorem d_Pile_reachAll_30 : decode b_Pile_reachAll 30 = .ok (.aload_n 0, 1) := by decide +kernel
theorem d_Pile_reachAll_31 : decode b_Pile_reachAll 31 = .ok (.getfield 15, 3) := by decide +kernel
theorem d_Pile_reachAll_34 : decode b_Pile_reachAll 34 = .ok (.iload_n 2, 1) := by decide +kernel
theorem d_Pile_reachAll_35 : decode b_Pile_reachAll 35 = .ok (.iaload, 1) := by decide +kernel
theorem d_Pile_reachAll_36 : decode b_Pile_reachAll 36 = .ok (.invokevirtual 38, 3) := by decide +kernel
theorem d_Pile_reachAll_39 : decode b_Pile_reachAll 39 = .ok (.goto 33, 3) := by decide +kernel
theorem d_Pile_reachAll_42 : decode b_Pile_reachAll 42 = .ok (.aload_n 0, 1) := by decide +kernel
theorem d_Pile_reachAll_43 : decode b_Pile_reachAll 43 = .ok (.getfield 9, 3) := by decide +kernel
theorem d_Pile_reachAll_46 : decode b_Pile_reachAll 46 = .ok (.iload_n 2, 1) := by decide +kernel
theorem d_Pile_reachAll_47 : decode b_Pile_reachAll 47 = .ok (.iaload, 1) := by decide +kernel
theorem d_Pile_reachAll_48 : decode b_Pile_reachAll 48 = .ok (.iconst 2, 1) := by decide +kernel
theorem d_Pile_reachAll_49 : decode b_Pile_reachAll 49 = .ok (.if_icmp .eq 13, 3) := by decide +kernel
theorem d_Pile_reachAll_52 : decode b_Pile_reachAll 52 = .ok (.aload_n 0, 1) := by decide +kernel
theorem d_Pile_reachAll_53 : decode b_Pile_reachAll 53 = .ok (.getfield 9, 3) := by decide +kernel
theorem d_Pile_reachAll_56 : decode b_Pile_reachAll 56 = .ok (.iload_n 2, 1) := by decide +kernel
theorem d_Pile_reachAll_57 : decode b_Pile_reachAll 57 = .ok (.iaload, 1) := by decide +kernel
theorem d_Pile_reachAll_58 : decode b_Pile_reachAll 58 = .ok (.iconst 4, 1) := by decide +kernel
theorem d_Pile_reachAll_59 : decode b_Pile_reachAll 59 = .ok (.if_icmp .ne 13, 3) := by decide +kernel
theorem d_Pile_reachAll_62 : decode b_Pile_reachAll 62 = .ok (.aload_n 1, 1) := by decide +kernel
theorem d_Pile_reachAll_63 : decode b_Pile_reachAll 63 = .ok (.aload_n 0, 1) := by decide +kernel
theorem d_Pile_reachAll_64 : decode b_Pile_reachAll 64 = .ok (.getfield 18, 3) := by decide +kernel
theorem d_Pile_reachAll_67 : decode b_Pile_reachAll 67 = .ok (.iload_n 2, 1) := by decide +kernel
theorem d_Pile_reachAll_68 : decode b_Pile_reachAll 68 = .ok (.iaload, 1) := by decide +kernel
theorem d_Pile_reachAll_69 : decode b_Pile_reachAll 69 = .ok (.invokevirtual 38, 3) := by decide +kernel
theorem d_Pile_reachAll_72 : decode b_Pile_reachAll 72 = .ok (.iinc 2 1, 3) := by decide +kernel
theorem d_Pile_reachAll_75 : decode b_Pile_reachAll 75 = .ok (.goto (-73), 3) := by decide +kernel
theorem d_Pile_reachAll_78 : decode b_Pile_reachAll 78 = .ok (.return_, 1) := by decide +kernel
theorem d_Term_size_0 : decode b_Term_size 0 = .ok (.aload_n 0, 1) := by decide +kernel
theorem d_Term_size_1 : decode b_Term_size 1 = .ok (.getfield 30, 3) := by decide +kernel
theorem d_Term_size_4 : decode b_Term_size 4 = .ok (.ireturn, 1) := by decide +kernel
theorem d_Term_sort_0 : decode b_Term_sort 0 = .ok (.aload_n 0, 1) := by decide +kernel
theorem d_Term_sort_1 : decode b_Term_sort 1 = .ok (.getfield 9, 3) := by decide +kernel
theorem d_Term_sort_4 : decode b_Term_sort 4 = .ok (.iload_n 1, 1) := by decide +kernel
theorem d_Term_sort_5 : decode b_Term_sort 5 = .ok (.iaload, 1) := by decide +kernel
theorem d_Term_sort_6 : decode b_Term_sort 6 = .ok (.ireturn, 1) := by decide +kernel
theorem d_Term_x_0 : decode b_Term_x 0 = .ok (.aload_n 0, 1) := by decide +kernel
theorem d_Term_x_1 : decode b_Term_x 1 = .ok (.getfield 15, 3) := by decide +kernel
theorem d_Term_x_4 : decode b_Term_x 4 = .ok (.iload_n 1, 1) := by decide +kernel
theorem d_Term_x_5 : decode b_Term_x 5 = .ok (.iaload, 1) := by decide +kernel
theorem d_Term_x_6 : decode b_Term_x 6 = .ok (.ireturn, 1) := by decide +kernel
theorem d_Term_part_0 : decode b_Term_part 0 = .ok (.aload_n 0, 1) := by decide +kernel
theorem d_Term_part_1 : decode b_Term_part 1 = .ok (.getfield 18, 3) := by decide +kernel
theorem d_Term_part_4 : decode b_Term_part 4 = .ok (.iload_n 1, 1) := by decide +kernel
theorem d_Term_part_5 : decode b_Term_part 5 = .ok (.iconst 3, 1) := by decide +kernel
theorem d_Term_part_6 : decode b_Term_part 6 = .ok (.imul, 1) := by decide +kernel
theorem d_Term_part_7 : decode b_Term_part 7 = .ok (.iload_n 2, 1) := by decide +kernel
theorem d_Term_part_8 : decode b_Term_part 8 = .ok (.iadd, 1) := by decide +kernel
theorem d_Term_part_9 : decode b_Term_part 9 = .ok (.iaload, 1) := by decide +kernel
theorem d_Term_part_10 : decode b_Term_part 10 = .ok (.ireturn, 1) := by decide +kernel
theorem d_Term_clear_0 : decode b_Term_clear 0 = .ok (.aload_n 0, 1) := by decide +kernel
theorem d_Term_clear_1 : decode b_Term_clear 1 = .ok (.iconst 0, 1) := by decide +kernel
theorem d_Term_clear_2 : decode b_Term_clear 2 = .ok (.putfield 30, 3) := by decide +kernel
theorem d_Term_clear_5 : decode b_Term_clear 5 = .ok (.return_, 1) := by decide +kernel
theorem d_Term_add_0 : decode b_Term_add 0 = .ok (.aload_n 0, 1) := by decide +kernel
theorem d_Term_add_1 : decode b_Term_add 1 = .ok (.getfield 30, 3) := by decide +kernel
theorem d_Term_add_4 : decode b_Term_add 4 = .ok (.sipush 200, 3) := by decide +kernel
theorem d_Term_add_7 : decode b_Term_add 7 = .ok (.if_icmp .ne 5, 3) := by decide +kernel
theorem d_Term_add_10 : decode b_Term_add 10 = .ok (.iconst 0, 1) := by decide +kernel
theorem d_Term_add_11 : decode b_Term_add 11 = .ok (.ireturn, 1) := by decide +kernel
theorem d_Term_add_12 : decode b_Term_add 12 = .ok (.aload_n 0, 1) := by decide +kernel
theorem d_Term_add_13 : decode b_Term_add 13 = .ok (.getfield 9, 3) := by decide +kernel
theorem d_Term_add_16 : decode b_Term_add 16 = .ok (.aload_n 0, 1) := by decide +kernel
theorem d_Term_add_17 : decode b_Term_add 17 = .ok (.getfield 30, 3) := by decide +kernel
theorem d_Term_add_20 : decode b_Term_add 20 = .ok (.iload_n 1, 1) := by decide +kernel
theorem d_Term_add_21 : decode b_Term_add 21 = .ok (.iastore, 1) := by decide +kernel
theorem d_Term_add_22 : decode b_Term_add 22 = .ok (.aload_n 0, 1) := by decide +kernel
theorem d_Term_add_23 : decode b_Term_add 23 = .ok (.getfield 15, 3) := by decide +kernel
theorem d_Term_add_26 : decode b_Term_add 26 = .ok (.aload_n 0, 1) := by decide +kernel
theorem d_Term_add_27 : decode b_Term_add 27 = .ok (.getfield 30, 3) := by decide +kernel
theorem d_Term_add_30 : decode b_Term_add 30 = .ok (.iload_n 2, 1) := by decide +kernel
theorem d_Term_add_31 : decode b_Term_add 31 = .ok (.iastore, 1) := by decide +kernel
theorem d_Term_add_32 : decode b_Term_add 32 = .ok (.aload_n 0, 1) := by decide +kernel
theorem d_Term_add_33 : decode b_Term_add 33 = .ok (.dup, 1) := by decide +kernel
theorem d_Term_add_34 : decode b_Term_add 34 = .ok (.getfield 30, 3) := by decide +kernel
theorem d_Term_add_37 : decode b_Term_add 37 = .ok (.iconst 1, 1) := by decide +kernel
theorem d_Term_add_38 : decode b_Term_add 38 = .ok (.iadd, 1) := by decide +kernel
theorem d_Term_add_39 : decode b_Term_add 39 = .ok (.putfield 30, 3) := by decide +kernel
theorem d_Term_add_42 : decode b_Term_add 42 = .ok (.iconst 1, 1) := by decide +kernel
theorem d_Term_add_43 : decode b_Term_add 43 = .ok (.ireturn, 1) := by decide +kernel
theorem d_Term_bindsIn_0 : decode b_Term_bindsIn 0 = .ok (.iload_n 0, 1) := by decide +kernel
theorem d_Term_bindsIn_1 : decode b_Term_bindsIn 1 = .ok (.iconst 1, 1) := by decide +kernel
theorem d_Term_bindsIn_2 : decode b_Term_bindsIn 2 = .ok (.if_icmp .eq 20, 3) := by decide +kernel
theorem d_Term_bindsIn_5 : decode b_Term_bindsIn 5 = .ok (.iload_n 0, 1) := by decide +kernel
theorem d_Term_bindsIn_6 : decode b_Term_bindsIn 6 = .ok (.bipush 9, 2) := by decide +kernel
theorem d_Term_bindsIn_8 : decode b_Term_bindsIn 8 = .ok (.if_icmp .eq 14, 3) := by decide +kernel
theorem d_Term_bindsIn_11 : decode b_Term_bindsIn 11 = .ok (.iload_n 0, 1) := by decide +kernel
theorem d_Term_bindsIn_12 : decode b_Term_bindsIn 12 = .ok (.bipush 10, 2) := by decide +kernel
theorem d_Term_bindsIn_14 : decode b_Term_bindsIn 14 = .ok (.if_icmp .ne 12, 3) := by decide +kernel
theorem d_Term_bindsIn_17 : decode b_Term_bindsIn 17 = .ok (.iload_n 1, 1) := by decide +kernel
theorem d_Term_bindsIn_18 : decode b_Term_bindsIn 18 = .ok (.iconst 1, 1) := by decide +kernel
theorem d_Term_bindsIn_19 : decode b_Term_bindsIn 19 = .ok (.if_icmp .ne 7, 3) := by decide +kernel
theorem d_Term_bindsIn_22 : decode b_Term_bindsIn 22 = .ok (.iconst 1, 1) := by decide +kernel
theorem d_Term_bindsIn_23 : decode b_Term_bindsIn 23 = .ok (.goto 4, 3) := by decide +kernel
theorem d_Term_bindsIn_26 : decode b_Term_bindsIn 26 = .ok (.iconst 0, 1) := by decide +kernel
theorem d_Term_bindsIn_27 : decode b_Term_bindsIn 27 = .ok (.ireturn, 1) := by decide +kernel
theorem d_Term_givePart_0 : decode b_Term_givePart 0 = .ok (.aload_n 0, 1) := by decide +kernel
theorem d_Term_givePart_1 : decode b_Term_givePart 1 = .ok (.getfield 21, 3) := by decide +kernel
theorem d_Term_givePart_4 : decode b_Term_givePart 4 = .ok (.iload_n 1, 1) := by decide +kernel
theorem d_Term_givePart_5 : decode b_Term_givePart 5 = .ok (.iaload, 1) := by decide +kernel
theorem d_Term_givePart_6 : decode b_Term_givePart 6 = .ok (.istore_n 3, 1) := by decide +kernel
theorem d_Term_givePart_7 : decode b_Term_givePart 7 = .ok (.aload_n 0, 1) := by decide +kernel
theorem d_Term_givePart_8 : decode b_Term_givePart 8 = .ok (.getfield 18, 3) := by decide +kernel
theorem d_Term_givePart_11 : decode b_Term_givePart 11 = .ok (.iload_n 1, 1) := by decide +kernel
theorem d_Term_givePart_12 : decode b_Term_givePart 12 = .ok (.iconst 3, 1) := by decide +kernel
theorem d_Term_givePart_13 : decode b_Term_givePart 13 = .ok (.imul, 1) := by decide +kernel
theorem d_Term_givePart_14 : decode b_Term_givePart 14 = .ok (.iload_n 3, 1) := by decide +kernel
theorem d_Term_givePart_15 : decode b_Term_givePart 15 = .ok (.iadd, 1) := by decide +kernel
theorem d_Term_givePart_16 : decode b_Term_givePart 16 = .ok (.iload_n 2, 1) := by decide +kernel
theorem d_Term_givePart_17 : decode b_Term_givePart 17 = .ok (.iastore, 1) := by decide +kernel
theorem d_Term_givePart_18 : decode b_Term_givePart 18 = .ok (.aload_n 0, 1) := by decide +kernel
theorem d_Term_givePart_19 : decode b_Term_givePart 19 = .ok (.getfield 21, 3) := by decide +kernel
theorem d_Term_givePart_22 : decode b_Term_givePart 22 = .ok (.iload_n 1, 1) := by decide +kernel
theorem d_Term_givePart_23 : decode b_Term_givePart 23 = .ok (.iload_n 3, 1) := by decide +kernel
theorem d_Term_givePart_24 : decode b_Term_givePart 24 = .ok (.iconst 1, 1) := by decide +kernel
theorem d_Term_givePart_25 : decode b_Term_givePart 25 = .ok (.iadd, 1) := by decide +kernel
theorem d_Term_givePart_26 : decode b_Term_givePart 26 = .ok (.iastore, 1) := by decide +kernel
theorem d_Term_givePart_27 : decode b_Term_givePart 27 = .ok (.aload_n 0, 1) := by decide +kernel
theorem d_Term_givePart_28 : decode b_Term_givePart 28 = .ok (.getfield 24, 3) := by decide +kernel
theorem d_Term_givePart_31 : decode b_Term_givePart 31 = .ok (.iload_n 2, 1) := by decide +kernel
theorem d_Term_givePart_32 : decode b_Term_givePart 32 = .ok (.aload_n 0, 1) := by decide +kernel
theorem d_Term_givePart_33 : decode b_Term_givePart 33 = .ok (.getfield 24, 3) := by decide +kernel
theorem d_Term_givePart_36 : decode b_Term_givePart 36 = .ok (.iload_n 1, 1) := by decide +kernel
theorem d_Term_givePart_37 : decode b_Term_givePart 37 = .ok (.iaload, 1) := by decide +kernel
theorem d_Term_givePart_38 : decode b_Term_givePart 38 = .ok (.aload_n 0, 1) := by decide +kernel
theorem d_Term_givePart_39 : decode b_Term_givePart 39 = .ok (.getfield 9, 3) := by decide +kernel
theorem d_Term_givePart_42 : decode b_Term_givePart 42 = .ok (.iload_n 1, 1) := by decide +kernel
theorem d_Term_givePart_43 : decode b_Term_givePart 43 = .ok (.iaload, 1) := by decide +kernel
theorem d_Term_givePart_44 : decode b_Term_givePart 44 = .ok (.iload_n 3, 1) := by decide +kernel
theorem d_Term_givePart_45 : decode b_Term_givePart 45 = .ok (.invokestatic 41, 3) := by decide +kernel
theorem d_Term_givePart_48 : decode b_Term_givePart 48 = .ok (.ifCond .eq 7, 3) := by decide +kernel
theorem d_Term_givePart_51 : decode b_Term_givePart 51 = .ok (.iconst 1, 1) := by decide +kernel
theorem d_Term_givePart_52 : decode b_Term_givePart 52 = .ok (.goto 4, 3) := by decide +kernel
theorem d_Term_givePart_55 : decode b_Term_givePart 55 = .ok (.iconst 0, 1) := by decide +kernel
theorem d_Term_givePart_56 : decode b_Term_givePart 56 = .ok (.iadd, 1) := by decide +kernel
theorem d_Term_givePart_57 : decode b_Term_givePart 57 = .ok (.iastore, 1) := by decide +kernel
theorem d_Term_givePart_58 : decode b_Term_givePart 58 = .ok (.iload_n 3, 1) := by decide +kernel
theorem d_Term_givePart_59 : decode b_Term_givePart 59 = .ok (.iconst 1, 1) := by decide +kernel
theorem d_Term_givePart_60 : decode b_Term_givePart 60 = .ok (.iadd, 1) := by decide +kernel
theorem d_Term_givePart_61 : decode b_Term_givePart 61 = .ok (.getstatic 38, 3) := by decide +kernel
theorem d_Term_givePart_64 : decode b_Term_givePart 64 = .ok (.aload_n 0, 1) := by decide +kernel
theorem d_Term_givePart_65 : decode b_Term_givePart 65 = .ok (.getfield 9, 3) := by decide +kernel
theorem d_Term_givePart_68 : decode b_Term_givePart 68 = .ok (.iload_n 1, 1) := by decide +kernel
theorem d_Term_givePart_69 : decode b_Term_givePart 69 = .ok (.iaload, 1) := by decide +kernel
theorem d_Term_givePart_70 : decode b_Term_givePart 70 = .ok (.iaload, 1) := by decide +kernel
theorem d_Term_givePart_71 : decode b_Term_givePart 71 = .ok (.if_icmp .ne 7, 3) := by decide +kernel
theorem d_Term_givePart_74 : decode b_Term_givePart 74 = .ok (.iconst 1, 1) := by decide +kernel
theorem d_Term_givePart_75 : decode b_Term_givePart 75 = .ok (.goto 4, 3) := by decide +kernel
theorem d_Term_givePart_78 : decode b_Term_givePart 78 = .ok (.iconst 0, 1) := by decide +kernel
theorem d_Term_givePart_79 : decode b_Term_givePart 79 = .ok (.ireturn, 1) := by decide +kernel
theorem d_Term_settle_0 : decode b_Term_settle 0 = .ok (.iconst 0, 1) := by decide +kernel
theorem d_Term_settle_1 : decode b_Term_settle 1 = .ok (.istore_n 1, 1) := by decide +kernel
theorem d_Term_settle_2 : decode b_Term_settle 2 = .ok (.iconst 0, 1) := by decide +kernel
theorem d_Term_settle_3 : decode b_Term_settle 3 = .ok (.istore_n 2, 1) := by decide +kernel
theorem d_Term_settle_4 : decode b_Term_settle 4 = .ok (.iload_n 2, 1) := by decide +kernel
theorem d_Term_settle_5 : decode b_Term_settle 5 = .ok (.aload_n 0, 1) := by decide +kernel
theorem d_Term_settle_6 : decode b_Term_settle 6 = .ok (.getfield 30, 3) := by decide +kernel
theorem d_Term_settle_9 : decode b_Term_settle 9 = .ok (.if_icmp .ge 109, 3) := by decide +kernel
theorem d_Term_settle_12 : decode b_Term_settle 12 = .ok (.iload_n 2, 1) := by decide +kernel
theorem d_Term_settle_13 : decode b_Term_settle 13 = .ok (.ifCond .le 11, 3) := by decide +kernel
theorem d_Term_settle_16 : decode b_Term_settle 16 = .ok (.iload_n 1, 1) := by decide +kernel
theorem d_Term_settle_17 : decode b_Term_settle 17 = .ok (.ifCond .ne 7, 3) := by decide +kernel
theorem d_Term_settle_20 : decode b_Term_settle 20 = .ok (.iconst 1, 1) := by decide +kernel
theorem d_Term_settle_21 : decode b_Term_settle 21 = .ok (.iload_n 2, 1) := by decide +kernel
theorem d_Term_settle_22 : decode b_Term_settle 22 = .ok (.iadd, 1) := by decide +kernel
theorem d_Term_settle_23 : decode b_Term_settle 23 = .ok (.ireturn, 1) := by decide +kernel
theorem d_Term_settle_24 : decode b_Term_settle 24 = .ok (.aload_n 0, 1) := by decide +kernel
theorem d_Term_settle_25 : decode b_Term_settle 25 = .ok (.getfield 24, 3) := by decide +kernel
theorem d_Term_settle_28 : decode b_Term_settle 28 = .ok (.iload_n 2, 1) := by decide +kernel
theorem d_Term_settle_29 : decode b_Term_settle 29 = .ok (.iconst 0, 1) := by decide +kernel
theorem d_Term_settle_30 : decode b_Term_settle 30 = .ok (.iastore, 1) := by decide +kernel
theorem d_Term_settle_31 : decode b_Term_settle 31 = .ok (.iload_n 1, 1) := by decide +kernel
theorem d_Term_settle_32 : decode b_Term_settle 32 = .ok (.ifCond .le 22, 3) := by decide +kernel
theorem d_Term_settle_35 : decode b_Term_settle 35 = .ok (.aload_n 0, 1) := by decide +kernel
theorem d_Term_settle_36 : decode b_Term_settle 36 = .ok (.aload_n 0, 1) := by decide +kernel
theorem d_Term_settle_37 : decode b_Term_settle 37 = .ok (.getfield 27, 3) := by decide +kernel
theorem d_Term_settle_40 : decode b_Term_settle 40 = .ok (.iload_n 1, 1) := by decide +kernel
theorem d_Term_settle_41 : decode b_Term_settle 41 = .ok (.iconst 1, 1) := by decide +kernel
theorem d_Term_settle_42 : decode b_Term_settle 42 = .ok (.isub, 1) := by decide +kernel
theorem d_Term_settle_43 : decode b_Term_settle 43 = .ok (.iaload, 1) := by decide +kernel
theorem d_Term_settle_44 : decode b_Term_settle 44 = .ok (.iload_n 2, 1) := by decide +kernel
theorem d_Term_settle_45 : decode b_Term_settle 45 = .ok (.invokevirtual 34, 3) := by decide +kernel
theorem d_Term_settle_48 : decode b_Term_settle 48 = .ok (.ifCond .eq 6, 3) := by decide +kernel
theorem d_Term_settle_51 : decode b_Term_settle 51 = .ok (.iinc 1 (-1), 3) := by decide +kernel
theorem d_Term_settle_54 : decode b_Term_settle 54 = .ok (.aload_n 0, 1) := by decide +kernel
theorem d_Term_settle_55 : decode b_Term_settle 55 = .ok (.getfield 9, 3) := by decide +kernel
theorem d_Term_settle_58 : decode b_Term_settle 58 = .ok (.iload_n 2, 1) := by decide +kernel
theorem d_Term_settle_59 : decode b_Term_settle 59 = .ok (.iaload, 1) := by decide +kernel
theorem d_Term_settle_60 : decode b_Term_settle 60 = .ok (.ifCond .ne 22, 3) := by decide +kernel
theorem d_Term_settle_63 : decode b_Term_settle 63 = .ok (.aload_n 0, 1) := by decide +kernel
theorem d_Term_settle_64 : decode b_Term_settle 64 = .ok (.getfield 15, 3) := by decide +kernel
theorem d_Term_settle_67 : decode b_Term_settle 67 = .ok (.iload_n 2, 1) := by decide +kernel
theorem d_Term_settle_68 : decode b_Term_settle 68 = .ok (.iaload, 1) := by decide +kernel
theorem d_Term_settle_69 : decode b_Term_settle 69 = .ok (.aload_n 0, 1) := by decide +kernel
theorem d_Term_settle_70 : decode b_Term_settle 70 = .ok (.getfield 24, 3) := by decide +kernel
theorem d_Term_settle_73 : decode b_Term_settle 73 = .ok (.iload_n 2, 1) := by decide +kernel
theorem d_Term_settle_74 : decode b_Term_settle 74 = .ok (.iaload, 1) := by decide +kernel
theorem d_Term_settle_75 : decode b_Term_settle 75 = .ok (.if_icmp .lt 7, 3) := by decide +kernel
theorem d_Term_settle_78 : decode b_Term_settle 78 = .ok (.iconst 1, 1) := by decide +kernel
theorem d_Term_settle_79 : decode b_Term_settle 79 = .ok (.iload_n 2, 1) := by decide +kernel
theorem d_Term_settle_80 : decode b_Term_settle 80 = .ok (.iadd, 1) := by decide +kernel
theorem d_Term_settle_81 : decode b_Term_settle 81 = .ok (.ireturn, 1) := by decide +kernel
theorem d_Term_settle_82 : decode b_Term_settle 82 = .ok (.aload_n 0, 1) := by decide +kernel
theorem d_Term_settle_83 : decode b_Term_settle 83 = .ok (.getfield 21, 3) := by decide +kernel
theorem d_Term_settle_86 : decode b_Term_settle 86 = .ok (.iload_n 2, 1) := by decide +kernel
theorem d_Term_settle_87 : decode b_Term_settle 87 = .ok (.iconst 0, 1) := by decide +kernel
theorem d_Term_settle_88 : decode b_Term_settle 88 = .ok (.iastore, 1) := by decide +kernel
theorem d_Term_settle_89 : decode b_Term_settle 89 = .ok (.getstatic 38, 3) := by decide +kernel
theorem d_Term_settle_92 : decode b_Term_settle 92 = .ok (.aload_n 0, 1) := by decide +kernel
theorem d_Term_settle_93 : decode b_Term_settle 93 = .ok (.getfield 9, 3) := by decide +kernel
theorem d_Term_settle_96 : decode b_Term_settle 96 = .ok (.iload_n 2, 1) := by decide +kernel
theorem d_Term_settle_97 : decode b_Term_settle 97 = .ok (.iaload, 1) := by decide +kernel
theorem d_Term_settle_98 : decode b_Term_settle 98 = .ok (.iaload, 1) := by decide +kernel
theorem d_Term_settle_99 : decode b_Term_settle 99 = .ok (.ifCond .le 13, 3) := by decide +kernel
theorem d_Term_settle_102 : decode b_Term_settle 102 = .ok (.aload_n 0, 1) := by decide +kernel
theorem d_Term_settle_103 : decode b_Term_settle 103 = .ok (.getfield 27, 3) := by decide +kernel
theorem d_Term_settle_106 : decode b_Term_settle 106 = .ok (.iload_n 1, 1) := by decide +kernel
theorem d_Term_settle_107 : decode b_Term_settle 107 = .ok (.iload_n 2, 1) := by decide +kernel
theorem d_Term_settle_108 : decode b_Term_settle 108 = .ok (.iastore, 1) := by decide +kernel
theorem d_Term_settle_109 : decode b_Term_settle 109 = .ok (.iinc 1 1, 3) := by decide +kernel
theorem d_Term_settle_112 : decode b_Term_settle 112 = .ok (.iinc 2 1, 3) := by decide +kernel
theorem d_Term_settle_115 : decode b_Term_settle 115 = .ok (.goto (-111), 3) := by decide +kernel
theorem d_Term_settle_118 : decode b_Term_settle 118 = .ok (.aload_n 0, 1) := by decide +kernel
theorem d_Term_settle_119 : decode b_Term_settle 119 = .ok (.getfield 30, 3) := by decide +kernel
theorem d_Term_settle_122 : decode b_Term_settle 122 = .ok (.ifCond .eq 7, 3) := by decide +kernel
theorem d_Term_settle_125 : decode b_Term_settle 125 = .ok (.iload_n 1, 1) := by decide +kernel
theorem d_Term_settle_126 : decode b_Term_settle 126 = .ok (.ifCond .le 12, 3) := by decide +kernel
theorem d_Term_settle_129 : decode b_Term_settle 129 = .ok (.iconst 1, 1) := by decide +kernel
theorem d_Term_settle_130 : decode b_Term_settle 130 = .ok (.aload_n 0, 1) := by decide +kernel
theorem d_Term_settle_131 : decode b_Term_settle 131 = .ok (.getfield 30, 3) := by decide +kernel
theorem d_Term_settle_134 : decode b_Term_settle 134 = .ok (.iadd, 1) := by decide +kernel
theorem d_Term_settle_135 : decode b_Term_settle 135 = .ok (.goto 4, 3) := by decide +kernel
theorem d_Term_settle_138 : decode b_Term_settle 138 = .ok (.iconst 0, 1) := by decide +kernel
theorem d_Term_settle_139 : decode b_Term_settle 139 = .ok (.ireturn, 1) := by decide +kernel
end
section
/-! The pile and the term's rows, as functions of their contents. -/
abbrev p_so (S : ZPS) : Nat → Int32 := S.1
abbrev p_fi (S : ZPS) : Nat → Int32 := S.2.1
abbrev p_se (S : ZPS) : Nat → Int32 := S.2.2.1
abbrev p_sz (S : ZPS) : Int32 := S.2.2.2.1
abbrev p_mo (S : ZPS) : Int32 := S.2.2.2.2
/-- how many frames -/
def pl_ok (S : ZPS) : Prop := ∃ z : Nat, z ≤ 200 ∧ p_sz S = nI z
def pl_empty (S : ZPS) : ZPS := (p_so S, p_fi S, p_se S, 0, 0)
def pl_full (S : ZPS) : Int32 := if p_sz S = 200 then 1 else 0
def pl_add (S : ZPS) (a b c : Int32) : ZPS := if p_sz S = 200 then S else (upd (p_so S) (p_sz S).toNatClampNeg a, upd (p_fi S) (p_sz S).toNatClampNeg b, upd (p_se S) (p_sz S).toNatClampNeg c, p_sz S + 1, if p_mo S < p_sz S + 1 then p_sz S + 1 else p_mo S)
def pl_drop (S : ZPS) : ZPS := if p_sz S ≤ 0 then S else (p_so S, p_fi S, p_se S, p_sz S - 1, p_mo S)
def pl_topSort (S : ZPS) : Int32 := if p_sz S = 0 then -1 else p_so S (p_sz S - 1).toNatClampNeg
def pl_topFirst (S : ZPS) : Int32 := if p_sz S = 0 then -1 else p_fi S (p_sz S - 1).toNatClampNeg
def pl_topSecond (S : ZPS) : Int32 := if p_sz S = 0 then -1 else p_se S (p_sz S - 1).toNatClampNeg
def pl_reach1 (P : ZPS) (S : ZHS) (k : Nat) : ZHS := if p_so P k = 0 then hp_reach S (p_fi P k) else if p_so P k = 1 then hp_reach S (p_fi P k) else if p_so P k = 2 then hp_reach S (p_se P k) else if p_so P k = 4 then hp_reach S (p_se P k) else S
def pl_reachN (P : ZPS) : Nat → Nat → ZHS → ZHS
  | 0, _, S => S
  | n + 1, k, S => pl_reachN P n (k + 1) (pl_reach1 P S k)
def pl_reach (P : ZPS) (S : ZHS) : ZHS := pl_reachN P (p_sz P).toNatClampNeg 0 S
/-- what the frames lead to are cells, or none -/
def pl_cells (P : ZPS) : Prop := ∀ j, j < (p_sz P).toNatClampNeg → (p_so P j = 0 ∨ p_so P j = 1 → hp_c (p_fi P j)) ∧ (p_so P j = 2 ∨ p_so P j = 4 → hp_c (p_se P j))
theorem pl_mk1 {P : ZPS} {S : ZHS} {k : Nat} (h : hp_mk S) (hc : (p_so P k = 0 ∨ p_so P k = 1 → hp_c (p_fi P k)) ∧ (p_so P k = 2 ∨ p_so P k = 4 → hp_c (p_se P k))) : hp_mk (pl_reach1 P S k) := by
  unfold pl_reach1
  by_cases h1 : p_so P k = 0
  · rw [if_pos h1]; exact hp_mk_reach h (hc.1 (Or.inl h1))
  · rw [if_neg h1]
    by_cases h2 : p_so P k = 1
    · rw [if_pos h2]; exact hp_mk_reach h (hc.1 (Or.inr h2))
    · rw [if_neg h2]
      by_cases h3 : p_so P k = 2
      · rw [if_pos h3]; exact hp_mk_reach h (hc.2 (Or.inl h3))
      · rw [if_neg h3]
        by_cases h4 : p_so P k = 4
        · rw [if_pos h4]; exact hp_mk_reach h (hc.2 (Or.inr h4))
        · rw [if_neg h4]; exact h
abbrev t_so (S : ZTS) : Nat → Int32 := S.1
abbrev t_xs (S : ZTS) : Nat → Int32 := S.2.1
abbrev t_pa (S : ZTS) : Nat → Int32 := S.2.2.1
abbrev t_pm (S : ZTS) : Nat → Int32 := S.2.2.2.1
abbrev t_bi (S : ZTS) : Nat → Int32 := S.2.2.2.2.1
abbrev t_op (S : ZTS) : Nat → Int32 := S.2.2.2.2.2.1
abbrev t_sz (S : ZTS) : Int32 := S.2.2.2.2.2.2
def tm_ok (S : ZTS) : Prop := ∃ z : Nat, z ≤ 200 ∧ t_sz S = nI z
def tm_clear (S : ZTS) : ZTS := (t_so S, t_xs S, t_pa S, t_pm S, t_bi S, t_op S, 0)
def tm_part (S : ZTS) (x y : Int32) : Int32 := t_pa S (x * 3 + y).toNatClampNeg
def tm_add (S : ZTS) (a b : Int32) : Int32 × ZTS := if t_sz S = 200 then (0, S) else (1, (upd (t_so S) (t_sz S).toNatClampNeg a, upd (t_xs S) (t_sz S).toNatClampNeg b, t_pa S, t_pm S, t_bi S, t_op S, t_sz S + 1))
def tm_binds (a b : Int32) : Int32 := if a = 1 then 1 else if a = 9 then 1 else if a = 10 then (if b = 1 then 1 else 0) else 0
/-- how many parts a node of a sort has -/
def tm_pt (k : Nat) : Int32 := ([0, 1, 2, 0, 2, 2, 2, 2, 3, 1, 2, 2, 1, 1] : List Int32).getD k 0
def tm_give (S : ZTS) (n p : Int32) : Int32 × ZTS :=
  (if t_pm S n.toNatClampNeg + 1 = tm_pt (t_so S n.toNatClampNeg).toNatClampNeg then 1 else 0,
   (t_so S, t_xs S, upd (t_pa S) (n * 3 + t_pm S n.toNatClampNeg).toNatClampNeg p, upd (t_pm S) n.toNatClampNeg (t_pm S n.toNatClampNeg + 1), upd (t_bi S) p.toNatClampNeg (t_bi S n.toNatClampNeg + (if tm_binds (t_so S n.toNatClampNeg) (t_pm S n.toNatClampNeg) = 0 then 0 else 1)), t_op S, t_sz S))
def tm_setbi (S : ZTS) (i : Nat) (x : Int32) : ZTS := (t_so S, t_xs S, t_pa S, t_pm S, upd (t_bi S) i x, t_op S, t_sz S)
def tm_setpm (S : ZTS) (i : Nat) (x : Int32) : ZTS := (t_so S, t_xs S, t_pa S, upd (t_pm S) i x, t_bi S, t_op S, t_sz S)
def tm_setop (S : ZTS) (i : Nat) (x : Int32) : ZTS := (t_so S, t_xs S, t_pa S, t_pm S, t_bi S, upd (t_op S) i x, t_sz S)
/-- node i is given to the innermost open one -/
def tm_s2 (S : ZTS) (i o : Nat) : Nat × ZTS := if o = 0 then (o, tm_setbi S i 0) else if (tm_give (tm_setbi S i 0) (t_op S (o - 1)) (nI i)).1 = 0 then (o, (tm_give (tm_setbi S i 0) (t_op S (o - 1)) (nI i)).2) else (o - 1, (tm_give (tm_setbi S i 0) (t_op S (o - 1)) (nI i)).2)
/-- and is opened itself -/
def tm_s4 (S : ZTS) (i o : Nat) : Nat × ZTS := if tm_pt (t_so S i).toNatClampNeg ≤ 0 then (o, tm_setpm S i 0) else (o + 1, tm_setop (tm_setpm S i 0) o (nI i))
theorem tm_s2_0 {S : ZTS} {i o : Nat} (h : (tm_give (tm_setbi S i 0) (t_op S o) (nI i)).1 = 0) : tm_s2 S i (o + 1) = (o + 1, (tm_give (tm_setbi S i 0) (t_op S o) (nI i)).2) := by
  unfold tm_s2
  rw [if_neg (by omega), show o + 1 - 1 = o from rfl, if_pos h]
theorem tm_s2_1 {S : ZTS} {i o : Nat} (h : ¬ (tm_give (tm_setbi S i 0) (t_op S o) (nI i)).1 = 0) : tm_s2 S i (o + 1) = (o, (tm_give (tm_setbi S i 0) (t_op S o) (nI i)).2) := by
  unfold tm_s2
  rw [if_neg (by omega), show o + 1 - 1 = o from rfl, if_neg h]
def tm_settleN : Nat → Nat → Nat → ZTS → Int32 × ZTS
  | 0, _, o, S => (if t_sz S = 0 then 1 + t_sz S else if o = 0 then 0 else 1 + t_sz S, S)
  | n + 1, i, o, S => if i ≠ 0 ∧ o = 0 then (1 + nI i, S) else
      if t_so (tm_s2 S i o).2 i = 0 ∧ t_bi (tm_s2 S i o).2 i ≤ t_xs (tm_s2 S i o).2 i then (1 + nI i, (tm_s2 S i o).2)
      else tm_settleN n (i + 1) (tm_s4 (tm_s2 S i o).2 i (tm_s2 S i o).1).1 (tm_s4 (tm_s2 S i o).2 i (tm_s2 S i o).1).2
def tm_settle (S : ZTS) : Int32 × ZTS := tm_settleN (t_sz S).toNatClampNeg 0 0 S
/-- the open nodes: ascending, each with a part that hasn't come -/
def tm_inv (S : ZTS) (i o : Nat) : Prop := o ≤ i ∧ ∃ q : Nat → Nat, (∀ j, j < o → t_op S j = nI (q j) ∧ q j < i ∧ ∃ w : Nat, t_pm S (q j) = nI w ∧ nI (w + 1) ≤ tm_pt (t_so S (q j)).toNatClampNeg ∧ w < 3) ∧ ∀ j k, j < k → k < o → q j < q k
/-- sorts are sorts -/
def tm_so (S : ZTS) : Prop := ∀ j, j < 200 → vp_in (t_so S j) 14
theorem tm_inv_pm {S : ZTS} {i o : Nat} (h : tm_inv S i o) (x : Int32) : tm_inv (tm_setpm S i x) (i + 1) o := by
  obtain ⟨h1, q, h2, h3⟩ := h
  refine ⟨by omega, q, fun j hj => ?_, h3⟩
  obtain ⟨a, b, w, c, d, e⟩ := h2 j hj
  refine ⟨a, by omega, w, ?_, d, e⟩
  show upd (t_pm S) i x (q j) = nI w
  rw [pk_un (by omega)]
  exact c
theorem tm_inv_op {S : ZTS} {i o : Nat} (h : tm_inv S i o) (hp : ¬ tm_pt (t_so S i).toNatClampNeg ≤ 0) : tm_inv (tm_setop (tm_setpm S i 0) o (nI i)) (i + 1) (o + 1) := by
  obtain ⟨h1, q, h2, h3⟩ := h
  refine ⟨by omega, fun j => if j = o then i else q j, fun j hj => ?_, fun j k hjk hk => ?_⟩
  · by_cases hjo : j = o
    · subst hjo
      refine ⟨?_, ?_, 0, ?_, ?_, by omega⟩
      · show upd (t_op S) j (nI i) j = nI (if j = j then i else q j)
        rw [pk_us, if_pos rfl]
      · simp
      · show upd (t_pm S) i 0 (if j = j then i else q j) = nI 0
        rw [if_pos rfl, pk_us]; rfl
      · show nI (0 + 1) ≤ tm_pt (t_so S (if j = j then i else q j)).toNatClampNeg
        rw [if_pos rfl]
        rw [Int32.le_iff_toInt_le] at hp ⊢
        have e1 : (nI (0 + 1)).toInt = 1 := by decide
        have e2 : (0 : Int32).toInt = 0 := by decide
        omega
    · obtain ⟨a, b, w, c, d, e⟩ := h2 j (by omega)
      simp only [if_neg hjo]
      refine ⟨?_, by omega, w, ?_, d, e⟩
      · show upd (t_op S) o (nI i) j = nI (q j)
        rw [pk_un hjo]; exact a
      · show upd (t_pm S) i 0 (q j) = nI w
        rw [pk_un (by omega)]; exact c
  · by_cases hko : k = o
    · subst hko
      show (if j = k then i else q j) < (if k = k then i else q k)
      rw [if_neg (by omega), if_pos rfl]
      exact (h2 j (by omega)).2.1
    · show (if j = o then i else q j) < (if k = o then i else q k)
      rw [if_neg (by omega), if_neg hko]
      exact h3 j k hjk (by omega)
/-- the innermost open node gets node i: what is left open -/
theorem tm_inv_give {S : ZTS} {i o : Nat} (h : tm_inv S i (o + 1)) (hi : i < 200) :
    (¬ (tm_give (tm_setbi S i 0) (t_op S o) (nI i)).1 = 0 → tm_inv (tm_give (tm_setbi S i 0) (t_op S o) (nI i)).2 i o) ∧
    ((tm_give (tm_setbi S i 0) (t_op S o) (nI i)).1 = 0 → tm_inv (tm_give (tm_setbi S i 0) (t_op S o) (nI i)).2 i (o + 1)) := by
  obtain ⟨h1, q, h2, h3⟩ := h
  obtain ⟨a, b, w, c, d, e⟩ := h2 o (by omega)
  have hcl : (t_op S o).toNatClampNeg = q o := by rw [a, nI_clamp (by omega)]
  have hold : ∀ j, j < o → (tm_give (tm_setbi S i 0) (t_op S o) (nI i)).2.2.2.2.1 (q j) = t_pm S (q j) := by
    intro j hj
    show upd (t_pm S) (t_op S o).toNatClampNeg _ (q j) = _
    rw [hcl, pk_un (by have := h3 j o hj (by omega); omega)]
  have hnew : (tm_give (tm_setbi S i 0) (t_op S o) (nI i)).2.2.2.2.1 (q o) = nI (w + 1) := by
    show upd (t_pm S) (t_op S o).toNatClampNeg (t_pm S (t_op S o).toNatClampNeg + 1) (q o) = _
    rw [hcl, pk_us, c]; exact (nI_succ w).symm
  refine ⟨fun _ => ⟨by omega, q, fun j hj => ?_, fun j k hjk hk => h3 j k hjk (by omega)⟩, fun h0 => ⟨h1, q, fun j hj => ?_, h3⟩⟩
  · obtain ⟨a', b', w', c', d', e'⟩ := h2 j (by omega)
    exact ⟨a', b', w', (hold j hj).trans c', d', e'⟩
  · rcases Nat.lt_or_ge j o with hjo | hjo
    · obtain ⟨a', b', w', c', d', e'⟩ := h2 j (by omega)
      exact ⟨a', b', w', (hold j hjo).trans c', d', e'⟩
    · have hjo : j = o := by omega
      subst hjo
      have hne : ¬ nI (w + 1) = tm_pt (t_so S (q j)).toNatClampNeg := by
        intro hq
        have : (tm_give (tm_setbi S i 0) (t_op S j) (nI i)).1 = 1 := by
          show (if t_pm S (t_op S j).toNatClampNeg + 1 = tm_pt (t_so S (t_op S j).toNatClampNeg).toNatClampNeg then (1 : Int32) else 0) = 1
          rw [hcl, c, ← nI_succ, if_pos hq]
        rw [this] at h0
        exact absurd h0 (by decide)
      have hpt : (tm_pt (t_so S (q j)).toNatClampNeg).toInt ≤ 3 := by
        unfold tm_pt
        generalize (t_so S (q j)).toNatClampNeg = n
        rcases Nat.lt_or_ge n 14 with h9 | h9
        · revert n; decide
        · rw [List.getD_eq_getElem?_getD, List.getElem?_eq_none (by simpa using h9)]; decide
      have hlt : (nI (w + 1)).toInt < (tm_pt (t_so S (q j)).toNatClampNeg).toInt := by
        rw [Int32.le_iff_toInt_le] at d
        rcases Int.lt_or_eq_of_le d with h9 | h9
        · exact h9
        · exact absurd (Int32.toInt_inj.mp h9) hne
      rw [nI_toInt (by omega)] at hlt
      refine ⟨a, b, w + 1, hnew, ?_, by omega⟩
      show nI (w + 1 + 1) ≤ tm_pt (t_so S (q j)).toNatClampNeg
      rw [Int32.le_iff_toInt_le, nI_toInt (by omega)]
      omega
theorem tm_o0 {o : Nat} (h : nI o ≤ 0) (ho : o < 2 ^ 31) : o = 0 := by
  rcases o with _ | o
  · rfl
  · exact absurd h (nI_nle (by omega) ho)
theorem tm_oz {o : Nat} (h : nI o = 0) (ho : o < 2 ^ 31) : o = 0 := by
  rcases o with _ | o
  · rfl
  · exact absurd h (nI_ne0 (by omega) ho)
theorem tm_inv_lt {S : ZTS} {i o : Nat} (h : tm_inv S i (o + 1)) (hi : i < 200) : (t_op S o).toNatClampNeg < 200 := by
  obtain ⟨h1, q, h2, h3⟩ := h
  have h4 := h2 o (by omega)
  rw [h4.1, nI_clamp (by omega)]
  omega
theorem tm_inv_ix {S : ZTS} {i o : Nat} (h : tm_inv S i (o + 1)) (hi : i < 200) : vp_in (t_op S o * 3 + t_pm S (t_op S o).toNatClampNeg) 600 := by
  obtain ⟨h1, q, h2, h3⟩ := h
  obtain ⟨a, b, w, c, d, e⟩ := h2 o (by omega)
  rw [a, nI_clamp (by omega), c, show (3 : Int32) = nI 3 from rfl, pk_mul, nI_add]
  exact vp_in_nI (by omega) (by decide)
/-- the row PARTS, outside of what a method writes -/
def tm_E (tp : Nat) (A : Nat → Prop) (U : State) : Prop := va_Nw (.fieldLinkNest R_Term 38 "LazyMachine" "PARTS" "[I" "LazyMachine") U ∧ va_Z "LazyMachine" "PARTS" "[I" (.ref tp) A U U.heap ∧ va_T .int tp 14 (fun k => .int (tm_pt k)) A U U.heap
theorem tm_E_bl {tp : Nat} {A : Nat → Prop} : lm_bl (tm_E tp A) := fun U g mk a h =>
  ⟨va_Nw.same rfl rfl h.1, va_Z.moved (u := U) (U := U.calling g mk a) (Vm.Alike.refl U.vm) h.2.1, va_T.moved (u := U) (U := U.calling g mk a) (Vm.Alike.refl U.vm) h.2.2⟩
theorem tm_E_use {tp : Nat} {A B : Nat → Prop} {s : State} {H : Heap} {locs : List Loc} (hE : tm_E tp A s) (hS : va_S A s.heap H locs) (hB : ∀ q, B q → A q) : ∀ U : State, U.heap = H → s.WarmedH U.vm → tm_E tp B U := fun U hU hW => by
  unfold tm_E
  rw [hU]
  exact ⟨va_Nw.warmF hW hE.1, ((hE.2.1.kept hS.2.1).moved hW.alike).narrow hB, ((hE.2.2.kept hS.2.1).moved hW.alike).narrow hB⟩
end
section
set_option maxHeartbeats 4000000 in
set_option maxRecDepth 100000 in
theorem c_Pile_empty (l : Launch) (dC : Nat → ClassId) (dI : Nat → Nat → Nat) (cA : ClassId)  (ad : Nat → Nat) (sz : Nat) (S : ZPS)   : Met l y_Pile_empty w_Pile_empty ({ frames := 0, cells := 0, slots := 0, locals := 0 } : Room) (va_Pc [.ref (ad 0)] (lm_pre (dC, dI) classes [(cA, .int)] (pl_W cA ad S) sz lm_no)) (va_Qv (fun (u : ZPS) => u = pl_empty S) (fun u => lm_at (dC, dI) classes [(cA, .int)] (va_A (pl_W cA ad S) sz) (pl_W cA ad u)) (va_A (pl_W cA ad S) sz)) 0 0 (va_A (pl_W cA ad S) sz) := by
  obtain ⟨so, fi, se, zz, mo⟩ := S
  refine lm_met (fun A => va_Qv (fun (u : ZPS) => u = pl_empty (so, fi, se, zz, mo)) (fun u => lm_at (dC, dI) classes [(cA, .int)] A (pl_W cA ad u)) A) (by decide) rfl (Nat.le_of_ble_eq_true rfl) ?_
  intro p e s m below meth c A hx hb hr hts hown hlocks hname hml hK hP hD hA hE hsz hAe hS ls hl
  replace hl : lv_has ls 1 [(0, .ref (ad 0))] := hl
  clear hAe hsz
  refine lv_aload_n hx hb d_Pile_empty_0 rfl (lv_at hl 0 rfl) ?_
  refine lv_iconst (v := 0) hx hb d_Pile_empty_1 (by decide) ?_
  refine va_put (D := (dC, dI)) (ci := 2) (v := .int 0) (ty := .int) (C := R_Pile) (T := F_Pile) (N := 5) hx hb hts (fun q hq => List.mem_cons_of_mem _ (i_Pile q hq)) t_Pile t_Pile_ok n_Pile hown hK hP hD hS 0 rfl rfl 3 (by decide) (hts _ (List.mem_cons_of_mem _ m_1_16)) (fun _ h9 => h9) rfl (by decide +kernel) rfl rfl (Nat.le_of_ble_eq_true rfl) d_Pile_empty_2 (fun H locs hP hD hS => ?_)
  have hP : va_P (dC, dI) classes (pl_W cA ad (so, fi, se, 0, mo)) H := hP
  have hD : va_D A (pl_W cA ad (so, fi, se, 0, mo)) := hD
  refine lv_aload_n hx hb d_Pile_empty_5 rfl (lv_at hl 0 rfl) ?_
  refine lv_iconst (v := 0) hx hb d_Pile_empty_6 (by decide) ?_
  refine va_put (D := (dC, dI)) (ci := 2) (v := .int 0) (ty := .int) (C := R_Pile) (T := F_Pile) (N := 5) hx hb hts (fun q hq => List.mem_cons_of_mem _ (i_Pile q hq)) t_Pile t_Pile_ok n_Pile hown hK hP hD hS 0 rfl rfl 4 (by decide) (hts _ (List.mem_cons_of_mem _ m_1_17)) (fun _ h9 => h9) rfl (by decide +kernel) rfl rfl (Nat.le_of_ble_eq_true rfl) d_Pile_empty_7 (fun H locs hP hD hS => ?_)
  have hP : va_P (dC, dI) classes (pl_W cA ad (so, fi, se, 0, 0)) H := hP
  have hD : va_D A (pl_W cA ad (so, fi, se, 0, 0)) := hD
  refine lm_rv hx hb hr hlocks (so, fi, se, 0, 0) ?_ hP hK hD hS d_Pile_empty_10
  rfl
set_option maxHeartbeats 4000000 in
set_option maxRecDepth 100000 in
theorem c_Pile_size (l : Launch) (dC : Nat → ClassId) (dI : Nat → Nat → Nat) (cA : ClassId)  (ad : Nat → Nat) (sz : Nat) (S : ZPS)   : Met l y_Pile_size w_Pile_size ({ frames := 0, cells := 0, slots := 0, locals := 0 } : Room) (va_Pc [.ref (ad 0)] (lm_pre (dC, dI) classes [(cA, .int)] (pl_W cA ad S) sz lm_no)) (va_Qi (fun (r : Int32) (u : ZPS) => r = p_sz S ∧ u = S) (fun u => lm_at (dC, dI) classes [(cA, .int)] (va_A (pl_W cA ad S) sz) (pl_W cA ad u)) (va_A (pl_W cA ad S) sz)) 0 0 (va_A (pl_W cA ad S) sz) := by
  obtain ⟨so, fi, se, zz, mo⟩ := S
  refine lm_met (fun A => va_Qi (fun (r : Int32) (u : ZPS) => r = p_sz (so, fi, se, zz, mo) ∧ u = (so, fi, se, zz, mo)) (fun u => lm_at (dC, dI) classes [(cA, .int)] A (pl_W cA ad u)) A) (by decide) rfl (Nat.le_of_ble_eq_true rfl) ?_
  intro p e s m below meth c A hx hb hr hts hown hlocks hname hml hK hP hD hA hE hsz hAe hS ls hl
  replace hl : lv_has ls 1 [(0, .ref (ad 0))] := hl
  clear hAe hsz
  refine lv_aload_n hx hb d_Pile_size_0 rfl (lv_at hl 0 rfl) ?_
  refine va_get (D := (dC, dI)) (ci := 2) (v := .int zz) (C := R_Pile) (T := F_Pile) (N := 5) hx hb hts (fun q hq => List.mem_cons_of_mem _ (i_Pile q hq)) hown hK hP 0 rfl rfl 3 (by decide) (hts _ (List.mem_cons_of_mem _ m_1_16)) (fun _ h9 => h9) rfl d_Pile_size_1 ?_
  refine lm_ri (v := zz) hx hb hr hlocks (so, fi, se, zz, mo) ?_ hP hK hD hS d_Pile_size_4
  exact ⟨rfl, rfl⟩
set_option maxHeartbeats 4000000 in
set_option maxRecDepth 100000 in
theorem c_Pile_most (l : Launch) (dC : Nat → ClassId) (dI : Nat → Nat → Nat) (cA : ClassId)  (ad : Nat → Nat) (sz : Nat) (S : ZPS)   : Met l y_Pile_most w_Pile_most ({ frames := 0, cells := 0, slots := 0, locals := 0 } : Room) (va_Pc [.ref (ad 0)] (lm_pre (dC, dI) classes [(cA, .int)] (pl_W cA ad S) sz lm_no)) (va_Qi (fun (r : Int32) (u : ZPS) => r = p_mo S ∧ u = S) (fun u => lm_at (dC, dI) classes [(cA, .int)] (va_A (pl_W cA ad S) sz) (pl_W cA ad u)) (va_A (pl_W cA ad S) sz)) 0 0 (va_A (pl_W cA ad S) sz) := by
  obtain ⟨so, fi, se, zz, mo⟩ := S
  refine lm_met (fun A => va_Qi (fun (r : Int32) (u : ZPS) => r = p_mo (so, fi, se, zz, mo) ∧ u = (so, fi, se, zz, mo)) (fun u => lm_at (dC, dI) classes [(cA, .int)] A (pl_W cA ad u)) A) (by decide) rfl (Nat.le_of_ble_eq_true rfl) ?_
  intro p e s m below meth c A hx hb hr hts hown hlocks hname hml hK hP hD hA hE hsz hAe hS ls hl
  replace hl : lv_has ls 1 [(0, .ref (ad 0))] := hl
  clear hAe hsz
  refine lv_aload_n hx hb d_Pile_most_0 rfl (lv_at hl 0 rfl) ?_
  refine va_get (D := (dC, dI)) (ci := 2) (v := .int mo) (C := R_Pile) (T := F_Pile) (N := 5) hx hb hts (fun q hq => List.mem_cons_of_mem _ (i_Pile q hq)) hown hK hP 0 rfl rfl 4 (by decide) (hts _ (List.mem_cons_of_mem _ m_1_17)) (fun _ h9 => h9) rfl d_Pile_most_1 ?_
  refine lm_ri (v := mo) hx hb hr hlocks (so, fi, se, zz, mo) ?_ hP hK hD hS d_Pile_most_4
  exact ⟨rfl, rfl⟩
set_option maxHeartbeats 4000000 in
set_option maxRecDepth 100000 in
theorem c_Pile_isFull (l : Launch) (dC : Nat → ClassId) (dI : Nat → Nat → Nat) (cA : ClassId)  (ad : Nat → Nat) (sz : Nat) (S : ZPS)   : Met l y_Pile_isFull w_Pile_isFull ({ frames := 0, cells := 0, slots := 0, locals := 0 } : Room) (va_Pc [.ref (ad 0)] (lm_pre (dC, dI) classes [(cA, .int)] (pl_W cA ad S) sz lm_no)) (va_Qi (fun (r : Int32) (u : ZPS) => r = pl_full S ∧ u = S) (fun u => lm_at (dC, dI) classes [(cA, .int)] (va_A (pl_W cA ad S) sz) (pl_W cA ad u)) (va_A (pl_W cA ad S) sz)) 0 0 (va_A (pl_W cA ad S) sz) := by
  obtain ⟨so, fi, se, zz, mo⟩ := S
  refine lm_met (fun A => va_Qi (fun (r : Int32) (u : ZPS) => r = pl_full (so, fi, se, zz, mo) ∧ u = (so, fi, se, zz, mo)) (fun u => lm_at (dC, dI) classes [(cA, .int)] A (pl_W cA ad u)) A) (by decide) rfl (Nat.le_of_ble_eq_true rfl) ?_
  intro p e s m below meth c A hx hb hr hts hown hlocks hname hml hK hP hD hA hE hsz hAe hS ls hl
  replace hl : lv_has ls 1 [(0, .ref (ad 0))] := hl
  clear hAe hsz
  refine lv_aload_n hx hb d_Pile_isFull_0 rfl (lv_at hl 0 rfl) ?_
  refine va_get (D := (dC, dI)) (ci := 2) (v := .int zz) (C := R_Pile) (T := F_Pile) (N := 5) hx hb hts (fun q hq => List.mem_cons_of_mem _ (i_Pile q hq)) hown hK hP 0 rfl rfl 3 (by decide) (hts _ (List.mem_cons_of_mem _ m_1_16)) (fun _ h9 => h9) rfl d_Pile_isFull_1 ?_
  refine lv_sipush (v := 200) hx hb d_Pile_isFull_4 (by decide) ?_
  refine lv_icmp_ne hx hb d_Pile_isFull_7 rfl (fun h7 => ?_) (fun h7 => ?_)
  · refine lv_iconst (v := 0) hx hb d_Pile_isFull_14 (by decide) ?_
    refine lm_rz (v := 0) hx hb hr hlocks (by decide) (so, fi, se, zz, mo) ?_ hP hK hD hS d_Pile_isFull_15
    simp [pl_full, p_so, p_fi, p_se, p_sz, p_mo, h7]
  · refine lv_iconst (v := 1) hx hb d_Pile_isFull_10 (by decide) ?_
    refine lv_goto hx hb d_Pile_isFull_11 rfl ?_
    refine lm_rz (v := 1) hx hb hr hlocks (by decide) (so, fi, se, zz, mo) ?_ hP hK hD hS d_Pile_isFull_15
    simp [pl_full, p_so, p_fi, p_se, p_sz, p_mo, h7]
set_option maxHeartbeats 4000000 in
set_option maxRecDepth 100000 in
theorem c_Pile_add (l : Launch) (dC : Nat → ClassId) (dI : Nat → Nat → Nat) (cA : ClassId)  (ad : Nat → Nat) (sz : Nat) (S : ZPS) (y1 y2 y3 : Int32) (hz : pl_ok S) : Met l y_Pile_add w_Pile_add ({ frames := 1, cells := 0, slots := 0, locals := 20 } : Room) (va_Pc [.ref (ad 0), .int y1, .int y2, .int y3] (lm_pre (dC, dI) classes [(cA, .int)] (pl_W cA ad S) sz lm_no)) (va_Qv (fun (u : ZPS) => u = pl_add S y1 y2 y3) (fun u => lm_at (dC, dI) classes [(cA, .int)] (va_A (pl_W cA ad S) sz) (pl_W cA ad u)) (va_A (pl_W cA ad S) sz)) 0 0 (va_A (pl_W cA ad S) sz) := by
  obtain ⟨so, fi, se, zz, mo⟩ := S
  obtain ⟨z, hz, hzz⟩ := hz
  have hzz : zz = nI z := hzz
  subst hzz
  refine lm_met (fun A => va_Qv (fun (u : ZPS) => u = pl_add (so, fi, se, (nI z), mo) y1 y2 y3) (fun u => lm_at (dC, dI) classes [(cA, .int)] A (pl_W cA ad u)) A) (by decide) rfl (Nat.le_of_ble_eq_true rfl) ?_
  intro p e s m below meth c A hx hb hr hts hown hlocks hname hml hK hP hD hA hE hsz hAe hS ls hl
  replace hl : lv_has ls 4 [(0, .ref (ad 0)), (1, .int y1), (2, .int y2), (3, .int y3)] := hl
  clear hAe hsz
  refine lv_aload_n hx hb d_Pile_add_0 rfl (lv_at hl 0 rfl) ?_
  refine lm_vi (b := ad 0) (As := []) (rest := []) (wr := ([] : va_W)) ⟨hx, hb, hml, hown, hts⟩ hK hP hD hS hA [0, 1, 2, 3] [] rfl rfl (by decide) (by decide) (by decide) (c_Pile_isFull l dC dI cA ad _ (so, fi, se, (nI z), mo)  ) (cwV 0 hts (lm_gV m_9_14 m_9_15 m_9_16 m_0_3 m_9_17) rfl rfl rfl (by decide +kernel) ⟨Nat.le_of_ble_eq_true rfl, Nat.le_of_ble_eq_true rfl⟩) (va_recv (q0 := 0) hK hP rfl rfl) lm_bl_no (fun _ _ _ => trivial) hl.1 rfl rfl (Nat.le_of_ble_eq_true rfl) d_Pile_add_1 ⟨Nat.le_of_ble_eq_true rfl, Nat.le_of_ble_eq_true rfl⟩ (fun r1 u1 H locs w1 hP hD hS => ?_)
  obtain ⟨e_r1, w1⟩ := w1
  replace w1 := w1.symm
  subst w1
  have hP : va_P (dC, dI) classes (pl_W cA ad (so, fi, se, (nI z), mo)) H := hP
  have hD : va_D A (pl_W cA ad (so, fi, se, (nI z), mo)) := hD
  refine lv_if_eq hx hb d_Pile_add_4 rfl (fun h4 => ?_) (fun h4 => ?_)
  · have hne : ¬ (nI z) = 200 := fun q => by rw [e_r1] at h4; simp [pl_full, q] at h4
    have hlt : z < 200 := by
      rcases Nat.lt_or_ge z 200 with h9 | h9
      · exact h9
      · exact absurd (by rw [show z = 200 by omega]; rfl) hne
    refine lv_aload_n hx hb d_Pile_add_8 rfl (lv_at hl 0 rfl) ?_
    refine va_get (D := (dC, dI)) (ci := 2) (v := .ref (ad 1)) (C := R_Pile) (T := F_Pile) (N := 5) hx hb hts (fun q hq => List.mem_cons_of_mem _ (i_Pile q hq)) hown hK hP 0 rfl rfl 0 (by decide) (hts _ (List.mem_cons_of_mem _ m_1_13)) (fun _ h9 => h9) rfl d_Pile_add_9 ?_
    refine lv_aload_n hx hb d_Pile_add_12 rfl (lv_at hl 0 rfl) ?_
    refine va_get (D := (dC, dI)) (ci := 2) (v := .int (nI z)) (C := R_Pile) (T := F_Pile) (N := 5) hx hb hts (fun q hq => List.mem_cons_of_mem _ (i_Pile q hq)) hown hK hP 0 rfl rfl 3 (by decide) (hts _ (List.mem_cons_of_mem _ m_1_16)) (fun _ h9 => h9) rfl d_Pile_add_13 ?_
    refine lv_iload_n hx hb d_Pile_add_16 rfl (lv_at hl 1 rfl) ?_
    have hin : vp_in (nI z) 200 := by first | assumption | exact vp_in_nI (by omega) (by decide)
    refine va_iast (f := so) (n := 200) hx hb hK hP hD hS 1 0 rfl rfl hin d_Pile_add_17 (fun H locs hP hD hS => ?_)
    rw [nI_clamp (show z < 2 ^ 31 by omega)] at hP hD
    have hP : va_P (dC, dI) classes (pl_W cA ad ((upd so z y1), fi, se, (nI z), mo)) H := hP
    have hD : va_D A (pl_W cA ad ((upd so z y1), fi, se, (nI z), mo)) := hD
    refine lv_aload_n hx hb d_Pile_add_18 rfl (lv_at hl 0 rfl) ?_
    refine va_get (D := (dC, dI)) (ci := 2) (v := .ref (ad 2)) (C := R_Pile) (T := F_Pile) (N := 5) hx hb hts (fun q hq => List.mem_cons_of_mem _ (i_Pile q hq)) hown hK hP 0 rfl rfl 1 (by decide) (hts _ (List.mem_cons_of_mem _ m_1_14)) (fun _ h9 => h9) rfl d_Pile_add_19 ?_
    refine lv_aload_n hx hb d_Pile_add_22 rfl (lv_at hl 0 rfl) ?_
    refine va_get (D := (dC, dI)) (ci := 2) (v := .int (nI z)) (C := R_Pile) (T := F_Pile) (N := 5) hx hb hts (fun q hq => List.mem_cons_of_mem _ (i_Pile q hq)) hown hK hP 0 rfl rfl 3 (by decide) (hts _ (List.mem_cons_of_mem _ m_1_16)) (fun _ h9 => h9) rfl d_Pile_add_23 ?_
    refine lv_iload_n hx hb d_Pile_add_26 rfl (lv_at hl 2 rfl) ?_
    have hin : vp_in (nI z) 200 := by first | assumption | exact vp_in_nI (by omega) (by decide)
    refine va_iast (f := fi) (n := 200) hx hb hK hP hD hS 2 0 rfl rfl hin d_Pile_add_27 (fun H locs hP hD hS => ?_)
    rw [nI_clamp (show z < 2 ^ 31 by omega)] at hP hD
    have hP : va_P (dC, dI) classes (pl_W cA ad ((upd so z y1), (upd fi z y2), se, (nI z), mo)) H := hP
    have hD : va_D A (pl_W cA ad ((upd so z y1), (upd fi z y2), se, (nI z), mo)) := hD
    refine lv_aload_n hx hb d_Pile_add_28 rfl (lv_at hl 0 rfl) ?_
    refine va_get (D := (dC, dI)) (ci := 2) (v := .ref (ad 3)) (C := R_Pile) (T := F_Pile) (N := 5) hx hb hts (fun q hq => List.mem_cons_of_mem _ (i_Pile q hq)) hown hK hP 0 rfl rfl 2 (by decide) (hts _ (List.mem_cons_of_mem _ m_1_15)) (fun _ h9 => h9) rfl d_Pile_add_29 ?_
    refine lv_aload_n hx hb d_Pile_add_32 rfl (lv_at hl 0 rfl) ?_
    refine va_get (D := (dC, dI)) (ci := 2) (v := .int (nI z)) (C := R_Pile) (T := F_Pile) (N := 5) hx hb hts (fun q hq => List.mem_cons_of_mem _ (i_Pile q hq)) hown hK hP 0 rfl rfl 3 (by decide) (hts _ (List.mem_cons_of_mem _ m_1_16)) (fun _ h9 => h9) rfl d_Pile_add_33 ?_
    refine lv_iload_n hx hb d_Pile_add_36 rfl (lv_at hl 3 rfl) ?_
    have hin : vp_in (nI z) 200 := by first | assumption | exact vp_in_nI (by omega) (by decide)
    refine va_iast (f := se) (n := 200) hx hb hK hP hD hS 3 0 rfl rfl hin d_Pile_add_37 (fun H locs hP hD hS => ?_)
    rw [nI_clamp (show z < 2 ^ 31 by omega)] at hP hD
    have hP : va_P (dC, dI) classes (pl_W cA ad ((upd so z y1), (upd fi z y2), (upd se z y3), (nI z), mo)) H := hP
    have hD : va_D A (pl_W cA ad ((upd so z y1), (upd fi z y2), (upd se z y3), (nI z), mo)) := hD
    refine lv_aload_n hx hb d_Pile_add_38 rfl (lv_at hl 0 rfl) ?_
    refine lv_dup hx hb d_Pile_add_39 rfl ?_
    refine va_get (D := (dC, dI)) (ci := 2) (v := .int (nI z)) (C := R_Pile) (T := F_Pile) (N := 5) hx hb hts (fun q hq => List.mem_cons_of_mem _ (i_Pile q hq)) hown hK hP 0 rfl rfl 3 (by decide) (hts _ (List.mem_cons_of_mem _ m_1_16)) (fun _ h9 => h9) rfl d_Pile_add_40 ?_
    refine lv_iconst (v := 1) hx hb d_Pile_add_43 (by decide) ?_
    refine lv_iadd hx hb d_Pile_add_44 ?_
    refine lv_topi (fun z_ e_ => ?_)
    have e_ : z_ = nI (z + 1) := e_.trans ((nI_succ z).symm)
    subst e_
    refine va_put (D := (dC, dI)) (ci := 2) (v := .int (nI (z + 1))) (ty := .int) (C := R_Pile) (T := F_Pile) (N := 5) hx hb hts (fun q hq => List.mem_cons_of_mem _ (i_Pile q hq)) t_Pile t_Pile_ok n_Pile hown hK hP hD hS 0 rfl rfl 3 (by decide) (hts _ (List.mem_cons_of_mem _ m_1_16)) (fun _ h9 => h9) rfl (by decide +kernel) rfl rfl (Nat.le_of_ble_eq_true rfl) d_Pile_add_45 (fun H locs hP hD hS => ?_)
    have hP : va_P (dC, dI) classes (pl_W cA ad ((upd so z y1), (upd fi z y2), (upd se z y3), (nI (z + 1)), mo)) H := hP
    have hD : va_D A (pl_W cA ad ((upd so z y1), (upd fi z y2), (upd se z y3), (nI (z + 1)), mo)) := hD
    refine lv_aload_n hx hb d_Pile_add_48 rfl (lv_at hl 0 rfl) ?_
    refine lv_aload_n hx hb d_Pile_add_49 rfl (lv_at hl 0 rfl) ?_
    refine va_get (D := (dC, dI)) (ci := 2) (v := .int mo) (C := R_Pile) (T := F_Pile) (N := 5) hx hb hts (fun q hq => List.mem_cons_of_mem _ (i_Pile q hq)) hown hK hP 0 rfl rfl 4 (by decide) (hts _ (List.mem_cons_of_mem _ m_1_17)) (fun _ h9 => h9) rfl d_Pile_add_50 ?_
    refine lv_aload_n hx hb d_Pile_add_53 rfl (lv_at hl 0 rfl) ?_
    refine va_get (D := (dC, dI)) (ci := 2) (v := .int (nI (z + 1))) (C := R_Pile) (T := F_Pile) (N := 5) hx hb hts (fun q hq => List.mem_cons_of_mem _ (i_Pile q hq)) hown hK hP 0 rfl rfl 3 (by decide) (hts _ (List.mem_cons_of_mem _ m_1_16)) (fun _ h9 => h9) rfl d_Pile_add_54 ?_
    refine va_mmax hx hb (by rw [hml]; exact hl.1.symm) hown (hts _ (List.mem_cons_of_mem _ m_9_18)) (hts _ (List.mem_cons_of_mem _ m_9_19)) (hts _ (List.mem_cons_of_mem _ m_0_6)) (hts _ (List.mem_cons_of_mem _ m_9_20)) (Nat.le_of_ble_eq_true rfl) (Nat.le_of_ble_eq_true rfl) (Nat.le_of_ble_eq_true rfl) (Nat.le_of_ble_eq_true rfl) d_Pile_add_57 ?_
    refine va_put (D := (dC, dI)) (ci := 2) (v := .int (if mo < (nI (z + 1)) then (nI (z + 1)) else mo)) (ty := .int) (C := R_Pile) (T := F_Pile) (N := 5) hx hb hts (fun q hq => List.mem_cons_of_mem _ (i_Pile q hq)) t_Pile t_Pile_ok n_Pile hown hK hP hD hS 0 rfl rfl 4 (by decide) (hts _ (List.mem_cons_of_mem _ m_1_17)) (fun _ h9 => h9) rfl (by decide +kernel) rfl rfl (Nat.le_of_ble_eq_true rfl) d_Pile_add_60 (fun H locs hP hD hS => ?_)
    have hP : va_P (dC, dI) classes (pl_W cA ad ((upd so z y1), (upd fi z y2), (upd se z y3), (nI (z + 1)), (if mo < (nI (z + 1)) then (nI (z + 1)) else mo))) H := hP
    have hD : va_D A (pl_W cA ad ((upd so z y1), (upd fi z y2), (upd se z y3), (nI (z + 1)), (if mo < (nI (z + 1)) then (nI (z + 1)) else mo))) := hD
    refine lm_rv hx hb hr hlocks ((upd so z y1), (upd fi z y2), (upd se z y3), (nI (z + 1)), (if mo < (nI (z + 1)) then (nI (z + 1)) else mo)) ?_ hP hK hD hS d_Pile_add_63
    unfold pl_add; rw [if_neg hne]; simp only [p_sz, p_so, p_fi, p_se, p_mo, nI_clamp (show z < 2 ^ 31 by omega), nI_succ]
  · refine lm_rv hx hb hr hlocks (so, fi, se, (nI z), mo) ?_ hP hK hD hS d_Pile_add_7
    have hz2 : (nI z) = 200 := by
      rcases Decidable.em ((nI z) = 200) with h9 | h9
      · exact h9
      · exact absurd (by rw [e_r1]; simp [pl_full, h9]) h4
    unfold pl_add; rw [if_pos hz2]
set_option maxHeartbeats 4000000 in
set_option maxRecDepth 100000 in
theorem c_Pile_drop (l : Launch) (dC : Nat → ClassId) (dI : Nat → Nat → Nat) (cA : ClassId)  (ad : Nat → Nat) (sz : Nat) (S : ZPS)   : Met l y_Pile_drop w_Pile_drop ({ frames := 0, cells := 0, slots := 0, locals := 0 } : Room) (va_Pc [.ref (ad 0)] (lm_pre (dC, dI) classes [(cA, .int)] (pl_W cA ad S) sz lm_no)) (va_Qv (fun (u : ZPS) => u = pl_drop S) (fun u => lm_at (dC, dI) classes [(cA, .int)] (va_A (pl_W cA ad S) sz) (pl_W cA ad u)) (va_A (pl_W cA ad S) sz)) 0 0 (va_A (pl_W cA ad S) sz) := by
  obtain ⟨so, fi, se, zz, mo⟩ := S
  refine lm_met (fun A => va_Qv (fun (u : ZPS) => u = pl_drop (so, fi, se, zz, mo)) (fun u => lm_at (dC, dI) classes [(cA, .int)] A (pl_W cA ad u)) A) (by decide) rfl (Nat.le_of_ble_eq_true rfl) ?_
  intro p e s m below meth c A hx hb hr hts hown hlocks hname hml hK hP hD hA hE hsz hAe hS ls hl
  replace hl : lv_has ls 1 [(0, .ref (ad 0))] := hl
  clear hAe hsz
  refine lv_aload_n hx hb d_Pile_drop_0 rfl (lv_at hl 0 rfl) ?_
  refine va_get (D := (dC, dI)) (ci := 2) (v := .int zz) (C := R_Pile) (T := F_Pile) (N := 5) hx hb hts (fun q hq => List.mem_cons_of_mem _ (i_Pile q hq)) hown hK hP 0 rfl rfl 3 (by decide) (hts _ (List.mem_cons_of_mem _ m_1_16)) (fun _ h9 => h9) rfl d_Pile_drop_1 ?_
  refine lv_if_le hx hb d_Pile_drop_4 rfl (fun h4 => ?_) (fun h4 => ?_)
  · refine lm_rv hx hb hr hlocks (so, fi, se, zz, mo) ?_ hP hK hD hS d_Pile_drop_17
    simp [pl_drop, p_so, p_fi, p_se, p_sz, p_mo, h4]
  · refine lv_aload_n hx hb d_Pile_drop_7 rfl (lv_at hl 0 rfl) ?_
    refine lv_dup hx hb d_Pile_drop_8 rfl ?_
    refine va_get (D := (dC, dI)) (ci := 2) (v := .int zz) (C := R_Pile) (T := F_Pile) (N := 5) hx hb hts (fun q hq => List.mem_cons_of_mem _ (i_Pile q hq)) hown hK hP 0 rfl rfl 3 (by decide) (hts _ (List.mem_cons_of_mem _ m_1_16)) (fun _ h9 => h9) rfl d_Pile_drop_9 ?_
    refine lv_iconst (v := 1) hx hb d_Pile_drop_12 (by decide) ?_
    refine lv_isub hx hb d_Pile_drop_13 ?_
    refine va_put (D := (dC, dI)) (ci := 2) (v := .int (zz - 1)) (ty := .int) (C := R_Pile) (T := F_Pile) (N := 5) hx hb hts (fun q hq => List.mem_cons_of_mem _ (i_Pile q hq)) t_Pile t_Pile_ok n_Pile hown hK hP hD hS 0 rfl rfl 3 (by decide) (hts _ (List.mem_cons_of_mem _ m_1_16)) (fun _ h9 => h9) rfl (by decide +kernel) rfl rfl (Nat.le_of_ble_eq_true rfl) d_Pile_drop_14 (fun H locs hP hD hS => ?_)
    have hP : va_P (dC, dI) classes (pl_W cA ad (so, fi, se, (zz - 1), mo)) H := hP
    have hD : va_D A (pl_W cA ad (so, fi, se, (zz - 1), mo)) := hD
    refine lm_rv hx hb hr hlocks (so, fi, se, (zz - 1), mo) ?_ hP hK hD hS d_Pile_drop_17
    simp [pl_drop, p_so, p_fi, p_se, p_sz, p_mo, h4]
set_option maxHeartbeats 4000000 in
set_option maxRecDepth 100000 in
theorem c_Pile_topSort (l : Launch) (dC : Nat → ClassId) (dI : Nat → Nat → Nat) (cA : ClassId)  (ad : Nat → Nat) (sz : Nat) (S : ZPS)  (hz : pl_ok S) : Met l y_Pile_topSort w_Pile_topSort ({ frames := 0, cells := 0, slots := 0, locals := 0 } : Room) (va_Pc [.ref (ad 0)] (lm_pre (dC, dI) classes [(cA, .int)] (pl_W cA ad S) sz lm_no)) (va_Qi (fun (r : Int32) (u : ZPS) => r = pl_topSort S ∧ u = S) (fun u => lm_at (dC, dI) classes [(cA, .int)] (va_A (pl_W cA ad S) sz) (pl_W cA ad u)) (va_A (pl_W cA ad S) sz)) 0 0 (va_A (pl_W cA ad S) sz) := by
  obtain ⟨so, fi, se, zz, mo⟩ := S
  obtain ⟨z, hz, hzz⟩ := hz
  have hzz : zz = nI z := hzz
  subst hzz
  refine lm_met (fun A => va_Qi (fun (r : Int32) (u : ZPS) => r = pl_topSort (so, fi, se, (nI z), mo) ∧ u = (so, fi, se, (nI z), mo)) (fun u => lm_at (dC, dI) classes [(cA, .int)] A (pl_W cA ad u)) A) (by decide) rfl (Nat.le_of_ble_eq_true rfl) ?_
  intro p e s m below meth c A hx hb hr hts hown hlocks hname hml hK hP hD hA hE hsz hAe hS ls hl
  replace hl : lv_has ls 1 [(0, .ref (ad 0))] := hl
  clear hAe hsz
  refine lv_aload_n hx hb d_Pile_topSort_0 rfl (lv_at hl 0 rfl) ?_
  refine va_get (D := (dC, dI)) (ci := 2) (v := .int (nI z)) (C := R_Pile) (T := F_Pile) (N := 5) hx hb hts (fun q hq => List.mem_cons_of_mem _ (i_Pile q hq)) hown hK hP 0 rfl rfl 3 (by decide) (hts _ (List.mem_cons_of_mem _ m_1_16)) (fun _ h9 => h9) rfl d_Pile_topSort_1 ?_
  refine lv_if_ne hx hb d_Pile_topSort_4 rfl (fun h4 => ?_) (fun h4 => ?_)
  · obtain ⟨g, rfl⟩ : ∃ g, z = g + 1 := by
      rcases z with _ | g
      · exact absurd nI_0 h4
      · exact ⟨g, rfl⟩
    refine lv_aload_n hx hb d_Pile_topSort_11 rfl (lv_at hl 0 rfl) ?_
    refine va_get (D := (dC, dI)) (ci := 2) (v := .ref (ad 1)) (C := R_Pile) (T := F_Pile) (N := 5) hx hb hts (fun q hq => List.mem_cons_of_mem _ (i_Pile q hq)) hown hK hP 0 rfl rfl 0 (by decide) (hts _ (List.mem_cons_of_mem _ m_1_13)) (fun _ h9 => h9) rfl d_Pile_topSort_12 ?_
    refine lv_aload_n hx hb d_Pile_topSort_15 rfl (lv_at hl 0 rfl) ?_
    refine va_get (D := (dC, dI)) (ci := 2) (v := .int (nI (g + 1))) (C := R_Pile) (T := F_Pile) (N := 5) hx hb hts (fun q hq => List.mem_cons_of_mem _ (i_Pile q hq)) hown hK hP 0 rfl rfl 3 (by decide) (hts _ (List.mem_cons_of_mem _ m_1_16)) (fun _ h9 => h9) rfl d_Pile_topSort_16 ?_
    refine lv_iconst (v := 1) hx hb d_Pile_topSort_19 (by decide) ?_
    refine lv_isub hx hb d_Pile_topSort_20 ?_
    refine lv_topi (fun z_ e_ => ?_)
    have e_ : z_ = nI g := e_.trans (nI_pred g)
    subst e_
    have hin : vp_in (nI g) 200 := by first | assumption | exact vp_in_nI (by omega) (by decide)
    refine va_iald (f := so) (n := 200) hx hb hK hP 1 0 rfl rfl hin d_Pile_topSort_21 ?_
    rw [nI_clamp (show g < 2 ^ 31 by omega)]
    refine lm_ri (v := (so g)) hx hb hr hlocks (so, fi, se, (nI (g + 1)), mo) ?_ hP hK hD hS d_Pile_topSort_22
    unfold pl_topSort; first | (rw [if_pos h4]; exact ⟨rfl, rfl⟩) | (rw [if_neg h4]; refine ⟨?_, rfl⟩; simp only [p_sz, nI_pred]; rw [nI_clamp (show g < 2 ^ 31 by omega)])
  · refine lv_iconst (v := -1) hx hb d_Pile_topSort_7 (by decide) ?_
    refine lv_goto hx hb d_Pile_topSort_8 rfl ?_
    refine lm_ri (v := (-1)) hx hb hr hlocks (so, fi, se, (nI z), mo) ?_ hP hK hD hS d_Pile_topSort_22
    unfold pl_topSort; first | (rw [if_pos h4]; exact ⟨rfl, rfl⟩) | (rw [if_neg h4]; refine ⟨?_, rfl⟩; simp only [p_sz, nI_pred]; rw [nI_clamp (show g < 2 ^ 31 by omega)])
set_option maxHeartbeats 4000000 in
set_option maxRecDepth 100000 in
theorem c_Pile_topFirst (l : Launch) (dC : Nat → ClassId) (dI : Nat → Nat → Nat) (cA : ClassId)  (ad : Nat → Nat) (sz : Nat) (S : ZPS)  (hz : pl_ok S) : Met l y_Pile_topFirst w_Pile_topFirst ({ frames := 0, cells := 0, slots := 0, locals := 0 } : Room) (va_Pc [.ref (ad 0)] (lm_pre (dC, dI) classes [(cA, .int)] (pl_W cA ad S) sz lm_no)) (va_Qi (fun (r : Int32) (u : ZPS) => r = pl_topFirst S ∧ u = S) (fun u => lm_at (dC, dI) classes [(cA, .int)] (va_A (pl_W cA ad S) sz) (pl_W cA ad u)) (va_A (pl_W cA ad S) sz)) 0 0 (va_A (pl_W cA ad S) sz) := by
  obtain ⟨so, fi, se, zz, mo⟩ := S
  obtain ⟨z, hz, hzz⟩ := hz
  have hzz : zz = nI z := hzz
  subst hzz
  refine lm_met (fun A => va_Qi (fun (r : Int32) (u : ZPS) => r = pl_topFirst (so, fi, se, (nI z), mo) ∧ u = (so, fi, se, (nI z), mo)) (fun u => lm_at (dC, dI) classes [(cA, .int)] A (pl_W cA ad u)) A) (by decide) rfl (Nat.le_of_ble_eq_true rfl) ?_
  intro p e s m below meth c A hx hb hr hts hown hlocks hname hml hK hP hD hA hE hsz hAe hS ls hl
  replace hl : lv_has ls 1 [(0, .ref (ad 0))] := hl
  clear hAe hsz
  refine lv_aload_n hx hb d_Pile_topFirst_0 rfl (lv_at hl 0 rfl) ?_
  refine va_get (D := (dC, dI)) (ci := 2) (v := .int (nI z)) (C := R_Pile) (T := F_Pile) (N := 5) hx hb hts (fun q hq => List.mem_cons_of_mem _ (i_Pile q hq)) hown hK hP 0 rfl rfl 3 (by decide) (hts _ (List.mem_cons_of_mem _ m_1_16)) (fun _ h9 => h9) rfl d_Pile_topFirst_1 ?_
  refine lv_if_ne hx hb d_Pile_topFirst_4 rfl (fun h4 => ?_) (fun h4 => ?_)
  · obtain ⟨g, rfl⟩ : ∃ g, z = g + 1 := by
      rcases z with _ | g
      · exact absurd nI_0 h4
      · exact ⟨g, rfl⟩
    refine lv_aload_n hx hb d_Pile_topFirst_11 rfl (lv_at hl 0 rfl) ?_
    refine va_get (D := (dC, dI)) (ci := 2) (v := .ref (ad 2)) (C := R_Pile) (T := F_Pile) (N := 5) hx hb hts (fun q hq => List.mem_cons_of_mem _ (i_Pile q hq)) hown hK hP 0 rfl rfl 1 (by decide) (hts _ (List.mem_cons_of_mem _ m_1_14)) (fun _ h9 => h9) rfl d_Pile_topFirst_12 ?_
    refine lv_aload_n hx hb d_Pile_topFirst_15 rfl (lv_at hl 0 rfl) ?_
    refine va_get (D := (dC, dI)) (ci := 2) (v := .int (nI (g + 1))) (C := R_Pile) (T := F_Pile) (N := 5) hx hb hts (fun q hq => List.mem_cons_of_mem _ (i_Pile q hq)) hown hK hP 0 rfl rfl 3 (by decide) (hts _ (List.mem_cons_of_mem _ m_1_16)) (fun _ h9 => h9) rfl d_Pile_topFirst_16 ?_
    refine lv_iconst (v := 1) hx hb d_Pile_topFirst_19 (by decide) ?_
    refine lv_isub hx hb d_Pile_topFirst_20 ?_
    refine lv_topi (fun z_ e_ => ?_)
    have e_ : z_ = nI g := e_.trans (nI_pred g)
    subst e_
    have hin : vp_in (nI g) 200 := by first | assumption | exact vp_in_nI (by omega) (by decide)
    refine va_iald (f := fi) (n := 200) hx hb hK hP 2 0 rfl rfl hin d_Pile_topFirst_21 ?_
    rw [nI_clamp (show g < 2 ^ 31 by omega)]
    refine lm_ri (v := (fi g)) hx hb hr hlocks (so, fi, se, (nI (g + 1)), mo) ?_ hP hK hD hS d_Pile_topFirst_22
    unfold pl_topFirst; first | (rw [if_pos h4]; exact ⟨rfl, rfl⟩) | (rw [if_neg h4]; refine ⟨?_, rfl⟩; simp only [p_sz, nI_pred]; rw [nI_clamp (show g < 2 ^ 31 by omega)])
  · refine lv_iconst (v := -1) hx hb d_Pile_topFirst_7 (by decide) ?_
    refine lv_goto hx hb d_Pile_topFirst_8 rfl ?_
    refine lm_ri (v := (-1)) hx hb hr hlocks (so, fi, se, (nI z), mo) ?_ hP hK hD hS d_Pile_topFirst_22
    unfold pl_topFirst; first | (rw [if_pos h4]; exact ⟨rfl, rfl⟩) | (rw [if_neg h4]; refine ⟨?_, rfl⟩; simp only [p_sz, nI_pred]; rw [nI_clamp (show g < 2 ^ 31 by omega)])
set_option maxHeartbeats 4000000 in
set_option maxRecDepth 100000 in
theorem c_Pile_topSecond (l : Launch) (dC : Nat → ClassId) (dI : Nat → Nat → Nat) (cA : ClassId)  (ad : Nat → Nat) (sz : Nat) (S : ZPS)  (hz : pl_ok S) : Met l y_Pile_topSecond w_Pile_topSecond ({ frames := 0, cells := 0, slots := 0, locals := 0 } : Room) (va_Pc [.ref (ad 0)] (lm_pre (dC, dI) classes [(cA, .int)] (pl_W cA ad S) sz lm_no)) (va_Qi (fun (r : Int32) (u : ZPS) => r = pl_topSecond S ∧ u = S) (fun u => lm_at (dC, dI) classes [(cA, .int)] (va_A (pl_W cA ad S) sz) (pl_W cA ad u)) (va_A (pl_W cA ad S) sz)) 0 0 (va_A (pl_W cA ad S) sz) := by
  obtain ⟨so, fi, se, zz, mo⟩ := S
  obtain ⟨z, hz, hzz⟩ := hz
  have hzz : zz = nI z := hzz
  subst hzz
  refine lm_met (fun A => va_Qi (fun (r : Int32) (u : ZPS) => r = pl_topSecond (so, fi, se, (nI z), mo) ∧ u = (so, fi, se, (nI z), mo)) (fun u => lm_at (dC, dI) classes [(cA, .int)] A (pl_W cA ad u)) A) (by decide) rfl (Nat.le_of_ble_eq_true rfl) ?_
  intro p e s m below meth c A hx hb hr hts hown hlocks hname hml hK hP hD hA hE hsz hAe hS ls hl
  replace hl : lv_has ls 1 [(0, .ref (ad 0))] := hl
  clear hAe hsz
  refine lv_aload_n hx hb d_Pile_topSecond_0 rfl (lv_at hl 0 rfl) ?_
  refine va_get (D := (dC, dI)) (ci := 2) (v := .int (nI z)) (C := R_Pile) (T := F_Pile) (N := 5) hx hb hts (fun q hq => List.mem_cons_of_mem _ (i_Pile q hq)) hown hK hP 0 rfl rfl 3 (by decide) (hts _ (List.mem_cons_of_mem _ m_1_16)) (fun _ h9 => h9) rfl d_Pile_topSecond_1 ?_
  refine lv_if_ne hx hb d_Pile_topSecond_4 rfl (fun h4 => ?_) (fun h4 => ?_)
  · obtain ⟨g, rfl⟩ : ∃ g, z = g + 1 := by
      rcases z with _ | g
      · exact absurd nI_0 h4
      · exact ⟨g, rfl⟩
    refine lv_aload_n hx hb d_Pile_topSecond_11 rfl (lv_at hl 0 rfl) ?_
    refine va_get (D := (dC, dI)) (ci := 2) (v := .ref (ad 3)) (C := R_Pile) (T := F_Pile) (N := 5) hx hb hts (fun q hq => List.mem_cons_of_mem _ (i_Pile q hq)) hown hK hP 0 rfl rfl 2 (by decide) (hts _ (List.mem_cons_of_mem _ m_1_15)) (fun _ h9 => h9) rfl d_Pile_topSecond_12 ?_
    refine lv_aload_n hx hb d_Pile_topSecond_15 rfl (lv_at hl 0 rfl) ?_
    refine va_get (D := (dC, dI)) (ci := 2) (v := .int (nI (g + 1))) (C := R_Pile) (T := F_Pile) (N := 5) hx hb hts (fun q hq => List.mem_cons_of_mem _ (i_Pile q hq)) hown hK hP 0 rfl rfl 3 (by decide) (hts _ (List.mem_cons_of_mem _ m_1_16)) (fun _ h9 => h9) rfl d_Pile_topSecond_16 ?_
    refine lv_iconst (v := 1) hx hb d_Pile_topSecond_19 (by decide) ?_
    refine lv_isub hx hb d_Pile_topSecond_20 ?_
    refine lv_topi (fun z_ e_ => ?_)
    have e_ : z_ = nI g := e_.trans (nI_pred g)
    subst e_
    have hin : vp_in (nI g) 200 := by first | assumption | exact vp_in_nI (by omega) (by decide)
    refine va_iald (f := se) (n := 200) hx hb hK hP 3 0 rfl rfl hin d_Pile_topSecond_21 ?_
    rw [nI_clamp (show g < 2 ^ 31 by omega)]
    refine lm_ri (v := (se g)) hx hb hr hlocks (so, fi, se, (nI (g + 1)), mo) ?_ hP hK hD hS d_Pile_topSecond_22
    unfold pl_topSecond; first | (rw [if_pos h4]; exact ⟨rfl, rfl⟩) | (rw [if_neg h4]; refine ⟨?_, rfl⟩; simp only [p_sz, nI_pred]; rw [nI_clamp (show g < 2 ^ 31 by omega)])
  · refine lv_iconst (v := -1) hx hb d_Pile_topSecond_7 (by decide) ?_
    refine lv_goto hx hb d_Pile_topSecond_8 rfl ?_
    refine lm_ri (v := (-1)) hx hb hr hlocks (so, fi, se, (nI z), mo) ?_ hP hK hD hS d_Pile_topSecond_22
    unfold pl_topSecond; first | (rw [if_pos h4]; exact ⟨rfl, rfl⟩) | (rw [if_neg h4]; refine ⟨?_, rfl⟩; simp only [p_sz, nI_pred]; rw [nI_clamp (show g < 2 ^ 31 by omega)])
set_option maxHeartbeats 4000000 in
set_option maxRecDepth 100000 in
theorem c_Pile_reachAll (l : Launch) (dC : Nat → ClassId) (dI : Nat → Nat → Nat) (cA : ClassId)  (ad : Nat → Nat) (ah : Nat → Nat) (sz : Nat) (S : ZPS) (K : ZHS)  (hz : pl_ok S) (hc : pl_cells S) (hm : hp_mk K) : Met l y_Pile_reachAll w_Pile_reachAll ({ frames := 1, cells := 0, slots := 0, locals := 21 } : Room) (va_Pc [.ref (ad 0), .ref (ah 0)] (lm_pre (dC, dI) classes [(cA, .int)] ((pl_W cA ad S) ++ (hp_W cA ah K)) sz lm_no)) (va_Qv (fun (u : ZHS) => u = pl_reach S K) (fun u => lm_at (dC, dI) classes [(cA, .int)] (va_A ((pl_W cA ad S) ++ (hp_W cA ah K)) sz) ((pl_W cA ad S) ++ (hp_W cA ah u))) (va_A ((pl_W cA ad S) ++ (hp_W cA ah K)) sz)) 0 0 (va_A ((pl_W cA ad S) ++ (hp_W cA ah K)) sz) := by
  obtain ⟨so, fi, se, zz, mo⟩ := S
  obtain ⟨z, hz, hzz⟩ := hz
  have hzz : zz = nI z := hzz
  subst hzz
  have hc : ∀ j, j < z → (so j = 0 ∨ so j = 1 → hp_c (fi j)) ∧ (so j = 2 ∨ so j = 4 → hp_c (se j)) := fun j hj => hc j (by show j < (nI z).toNatClampNeg; rw [nI_clamp (by omega)]; exact hj)
  refine lm_met (fun A => va_Qv (fun (u : ZHS) => u = pl_reach (so, fi, se, (nI z), mo) K) (fun u => lm_at (dC, dI) classes [(cA, .int)] A ((pl_W cA ad (so, fi, se, (nI z), mo)) ++ (hp_W cA ah u))) A) (by decide) rfl (Nat.le_of_ble_eq_true rfl) ?_
  intro p e s m below meth c A hx hb hr hts hown hlocks hname hml hK hP hD hA hE hsz hAe hS ls hl
  replace hl : lv_has ls 3 [(0, .ref (ad 0)), (1, .ref (ah 0))] := hl
  clear hAe hsz
  refine lv_iconst (v := 0) hx hb d_Pile_reachAll_0 (by decide) ?_
  refine lv_istore_n (lv' := [(2, .int 0), (0, .ref (ad 0)), (1, .ref (ah 0))]) hx hb d_Pile_reachAll_1 rfl hl (by decide) rfl (fun ls hl => ?_)
  have loop : ∀ (fu : Nat) (k : Nat) (Z : ZHS) (ls : Array Slot) (H : Heap) (locs : List Loc), (k + fu = z) → (hp_mk Z) → (pl_reach (so, fi, se, (nI z), mo) K = pl_reachN (so, fi, se, (nI z), mo) fu k Z) → lv_has ls 3 [(2, .int (nI k)), (0, .ref (ad 0)), (1, .ref (ah 0))] → va_P (dC, dI) classes ((pl_W cA ad (so, fi, se, (nI z), mo)) ++ (hp_W cA ah Z)) H → va_D A ((pl_W cA ad (so, fi, se, (nI z), mo)) ++ (hp_W cA ah Z)) → va_S A s.heap H locs → W p l e (headSpec w_Pile_reachAll ({ frames := 1, cells := 0, slots := 0, locals := 21 } : Room)).room s m (List.toArray [.ref (ad 0), .ref (ah 0)]) below meth c H locs 0 0 (MQ below (va_Qv (fun (u : ZHS) => u = pl_reach (so, fi, se, (nI z), mo) K) (fun u => lm_at (dC, dI) classes [(cA, .int)] A ((pl_W cA ad (so, fi, se, (nI z), mo)) ++ (hp_W cA ah u))) A) (List.toArray [.ref (ad 0), .ref (ah 0)]) s 0 0 A) (F0 m 2 ls []) := by
    intro fu
    induction fu with
    | zero => 
      intro k Z ls H locs hk hZ hq hl hP hD hS
      refine lv_iload_n hx hb d_Pile_reachAll_2 rfl (lv_at hl 0 rfl) ?_
      refine lv_aload_n hx hb d_Pile_reachAll_3 rfl (lv_at hl 1 rfl) ?_
      refine va_get (D := (dC, dI)) (ci := 2) (v := .int (nI z)) (C := R_Pile) (T := F_Pile) (N := 5) hx hb hts (fun q hq => List.mem_cons_of_mem _ (i_Pile q hq)) hown hK hP 0 rfl rfl 3 (by decide) (hts _ (List.mem_cons_of_mem _ m_1_16)) (fun _ h9 => h9) rfl d_Pile_reachAll_4 ?_
      refine lv_icmp_ge hx hb d_Pile_reachAll_7 rfl (fun h7 => ?_) (fun h7 => by exact absurd (nI_le (by omega) (by omega)) h7)
      refine lm_rv hx hb hr hlocks Z ?_ hP hK hD hS d_Pile_reachAll_78
      rw [hq, pl_reachN]
    | succ fu ih => 
      intro k Z ls H locs hk hZ hq hl hP hD hS
      refine lv_iload_n hx hb d_Pile_reachAll_2 rfl (lv_at hl 0 rfl) ?_
      refine lv_aload_n hx hb d_Pile_reachAll_3 rfl (lv_at hl 1 rfl) ?_
      refine va_get (D := (dC, dI)) (ci := 2) (v := .int (nI z)) (C := R_Pile) (T := F_Pile) (N := 5) hx hb hts (fun q hq => List.mem_cons_of_mem _ (i_Pile q hq)) hown hK hP 0 rfl rfl 3 (by decide) (hts _ (List.mem_cons_of_mem _ m_1_16)) (fun _ h9 => h9) rfl d_Pile_reachAll_4 ?_
      refine lv_icmp_ge hx hb d_Pile_reachAll_7 rfl (fun h7 => by exact absurd h7 (nI_ge (by omega) (by omega))) (fun h7 => ?_)
      refine lv_aload_n hx hb d_Pile_reachAll_10 rfl (lv_at hl 1 rfl) ?_
      refine va_get (D := (dC, dI)) (ci := 2) (v := .ref (ad 1)) (C := R_Pile) (T := F_Pile) (N := 5) hx hb hts (fun q hq => List.mem_cons_of_mem _ (i_Pile q hq)) hown hK hP 0 rfl rfl 0 (by decide) (hts _ (List.mem_cons_of_mem _ m_1_13)) (fun _ h9 => h9) rfl d_Pile_reachAll_11 ?_
      refine lv_iload_n hx hb d_Pile_reachAll_14 rfl (lv_at hl 0 rfl) ?_
      have hin : vp_in (nI k) 200 := by first | assumption | exact vp_in_nI (by omega) (by decide)
      refine va_iald (f := so) (n := 200) hx hb hK hP 1 0 rfl rfl hin d_Pile_reachAll_15 ?_
      rw [nI_clamp (show k < 2 ^ 31 by omega)]
      refine lv_if_eq hx hb d_Pile_reachAll_16 rfl (fun h16 => ?_) (fun h16 => ?_)
      · refine lv_aload_n hx hb d_Pile_reachAll_29 rfl (lv_at hl 2 rfl) ?_
        refine lv_aload_n hx hb d_Pile_reachAll_30 rfl (lv_at hl 1 rfl) ?_
        refine va_get (D := (dC, dI)) (ci := 2) (v := .ref (ad 2)) (C := R_Pile) (T := F_Pile) (N := 5) hx hb hts (fun q hq => List.mem_cons_of_mem _ (i_Pile q hq)) hown hK hP 0 rfl rfl 1 (by decide) (hts _ (List.mem_cons_of_mem _ m_1_14)) (fun _ h9 => h9) rfl d_Pile_reachAll_31 ?_
        refine lv_iload_n hx hb d_Pile_reachAll_34 rfl (lv_at hl 0 rfl) ?_
        have hin : vp_in (nI k) 200 := by first | assumption | exact vp_in_nI (by omega) (by decide)
        refine va_iald (f := fi) (n := 200) hx hb hK hP 2 0 rfl rfl hin d_Pile_reachAll_35 ?_
        rw [nI_clamp (show k < 2 ^ 31 by omega)]
        refine lm_vv (b := ah 0) (As := [.int (fi k)]) (rest := []) (wr := (pl_W cA ad (so, fi, se, (nI z), mo))) ⟨hx, hb, hml, hown, hts⟩ hK hP hD hS hA [4, 5, 6, 7, 8, 9, 10] [0, 1, 2, 3] rfl rfl (by decide) (by decide) (by decide) (c_Heap_reach l dC dI cA ah _ Z (fi k) (by exact (hc k (by omega)).1 (by first | exact Or.inl h16 | exact Or.inr h26)) (by exact hZ)) (cwV 1 hts (lm_gV m_5_17 m_5_9 m_5_10 m_0_2 m_5_11) rfl rfl rfl (by decide +kernel) ⟨Nat.le_of_ble_eq_true rfl, Nat.le_of_ble_eq_true rfl⟩) (va_recv (q0 := 4) hK hP rfl rfl) lm_bl_no (fun _ _ _ => trivial) hl.1 rfl rfl (Nat.le_of_ble_eq_true rfl) d_Pile_reachAll_36 ⟨Nat.le_of_ble_eq_true rfl, Nat.le_of_ble_eq_true rfl⟩ (fun u36 H locs w36 hP hD hS => ?_)
        have hP : va_P (dC, dI) classes ((pl_W cA ad (so, fi, se, (nI z), mo)) ++ (hp_W cA ah u36)) H := hP
        have hD : va_D A ((pl_W cA ad (so, fi, se, (nI z), mo)) ++ (hp_W cA ah u36)) := hD
        refine lv_goto hx hb d_Pile_reachAll_39 rfl ?_
        refine lv_iinc (k := 0) (v := (nI (k + 1))) (lv' := [(2, .int (nI (k + 1))), (0, .ref (ad 0)), (1, .ref (ah 0))]) hx hb d_Pile_reachAll_72 hl rfl ((nI_succ k).symm) (by decide) rfl (fun ls hl => ?_)
        refine lv_goto hx hb d_Pile_reachAll_75 rfl ?_
        exact ih (k + 1) u36 _ _ _ (by omega) (by rw [w36]; exact hp_mk_reach hZ ((hc k (by omega)).1 (by first | exact Or.inl h16 | exact Or.inr h26))) (by rw [hq, pl_reachN]; congr 1; rw [w36]; unfold pl_reach1; (first | rw [if_pos h16] | rw [if_neg h16])) (lv_sub hl [0, 1, 2] rfl) hP hD hS
      · refine lv_aload_n hx hb d_Pile_reachAll_19 rfl (lv_at hl 1 rfl) ?_
        refine va_get (D := (dC, dI)) (ci := 2) (v := .ref (ad 1)) (C := R_Pile) (T := F_Pile) (N := 5) hx hb hts (fun q hq => List.mem_cons_of_mem _ (i_Pile q hq)) hown hK hP 0 rfl rfl 0 (by decide) (hts _ (List.mem_cons_of_mem _ m_1_13)) (fun _ h9 => h9) rfl d_Pile_reachAll_20 ?_
        refine lv_iload_n hx hb d_Pile_reachAll_23 rfl (lv_at hl 0 rfl) ?_
        have hin : vp_in (nI k) 200 := by first | assumption | exact vp_in_nI (by omega) (by decide)
        refine va_iald (f := so) (n := 200) hx hb hK hP 1 0 rfl rfl hin d_Pile_reachAll_24 ?_
        rw [nI_clamp (show k < 2 ^ 31 by omega)]
        refine lv_iconst (v := 1) hx hb d_Pile_reachAll_25 (by decide) ?_
        refine lv_icmp_ne hx hb d_Pile_reachAll_26 rfl (fun h26 => ?_) (fun h26 => ?_)
        · refine lv_aload_n hx hb d_Pile_reachAll_42 rfl (lv_at hl 1 rfl) ?_
          refine va_get (D := (dC, dI)) (ci := 2) (v := .ref (ad 1)) (C := R_Pile) (T := F_Pile) (N := 5) hx hb hts (fun q hq => List.mem_cons_of_mem _ (i_Pile q hq)) hown hK hP 0 rfl rfl 0 (by decide) (hts _ (List.mem_cons_of_mem _ m_1_13)) (fun _ h9 => h9) rfl d_Pile_reachAll_43 ?_
          refine lv_iload_n hx hb d_Pile_reachAll_46 rfl (lv_at hl 0 rfl) ?_
          have hin : vp_in (nI k) 200 := by first | assumption | exact vp_in_nI (by omega) (by decide)
          refine va_iald (f := so) (n := 200) hx hb hK hP 1 0 rfl rfl hin d_Pile_reachAll_47 ?_
          rw [nI_clamp (show k < 2 ^ 31 by omega)]
          refine lv_iconst (v := 2) hx hb d_Pile_reachAll_48 (by decide) ?_
          refine lv_icmp_eq hx hb d_Pile_reachAll_49 rfl (fun h49 => ?_) (fun h49 => ?_)
          · refine lv_aload_n hx hb d_Pile_reachAll_62 rfl (lv_at hl 2 rfl) ?_
            refine lv_aload_n hx hb d_Pile_reachAll_63 rfl (lv_at hl 1 rfl) ?_
            refine va_get (D := (dC, dI)) (ci := 2) (v := .ref (ad 3)) (C := R_Pile) (T := F_Pile) (N := 5) hx hb hts (fun q hq => List.mem_cons_of_mem _ (i_Pile q hq)) hown hK hP 0 rfl rfl 2 (by decide) (hts _ (List.mem_cons_of_mem _ m_1_15)) (fun _ h9 => h9) rfl d_Pile_reachAll_64 ?_
            refine lv_iload_n hx hb d_Pile_reachAll_67 rfl (lv_at hl 0 rfl) ?_
            have hin : vp_in (nI k) 200 := by first | assumption | exact vp_in_nI (by omega) (by decide)
            refine va_iald (f := se) (n := 200) hx hb hK hP 3 0 rfl rfl hin d_Pile_reachAll_68 ?_
            rw [nI_clamp (show k < 2 ^ 31 by omega)]
            refine lm_vv (b := ah 0) (As := [.int (se k)]) (rest := []) (wr := (pl_W cA ad (so, fi, se, (nI z), mo))) ⟨hx, hb, hml, hown, hts⟩ hK hP hD hS hA [4, 5, 6, 7, 8, 9, 10] [0, 1, 2, 3] rfl rfl (by decide) (by decide) (by decide) (c_Heap_reach l dC dI cA ah _ Z (se k) (by exact (hc k (by omega)).2 (by first | exact Or.inl h49 | exact Or.inr h59)) (by exact hZ)) (cwV 1 hts (lm_gV m_5_17 m_5_9 m_5_10 m_0_2 m_5_11) rfl rfl rfl (by decide +kernel) ⟨Nat.le_of_ble_eq_true rfl, Nat.le_of_ble_eq_true rfl⟩) (va_recv (q0 := 4) hK hP rfl rfl) lm_bl_no (fun _ _ _ => trivial) hl.1 rfl rfl (Nat.le_of_ble_eq_true rfl) d_Pile_reachAll_69 ⟨Nat.le_of_ble_eq_true rfl, Nat.le_of_ble_eq_true rfl⟩ (fun u69 H locs w69 hP hD hS => ?_)
            have hP : va_P (dC, dI) classes ((pl_W cA ad (so, fi, se, (nI z), mo)) ++ (hp_W cA ah u69)) H := hP
            have hD : va_D A ((pl_W cA ad (so, fi, se, (nI z), mo)) ++ (hp_W cA ah u69)) := hD
            refine lv_iinc (k := 0) (v := (nI (k + 1))) (lv' := [(2, .int (nI (k + 1))), (0, .ref (ad 0)), (1, .ref (ah 0))]) hx hb d_Pile_reachAll_72 hl rfl ((nI_succ k).symm) (by decide) rfl (fun ls hl => ?_)
            refine lv_goto hx hb d_Pile_reachAll_75 rfl ?_
            exact ih (k + 1) u69 _ _ _ (by omega) (by rw [w69]; exact hp_mk_reach hZ ((hc k (by omega)).2 (by first | exact Or.inl h49 | exact Or.inr h59))) (by rw [hq, pl_reachN]; congr 1; rw [w69]; unfold pl_reach1; (first | rw [if_pos h16] | rw [if_neg h16]); (first | rw [if_pos h26] | rw [if_neg h26]); (first | rw [if_pos h49] | rw [if_neg h49])) (lv_sub hl [0, 1, 2] rfl) hP hD hS
          · refine lv_aload_n hx hb d_Pile_reachAll_52 rfl (lv_at hl 1 rfl) ?_
            refine va_get (D := (dC, dI)) (ci := 2) (v := .ref (ad 1)) (C := R_Pile) (T := F_Pile) (N := 5) hx hb hts (fun q hq => List.mem_cons_of_mem _ (i_Pile q hq)) hown hK hP 0 rfl rfl 0 (by decide) (hts _ (List.mem_cons_of_mem _ m_1_13)) (fun _ h9 => h9) rfl d_Pile_reachAll_53 ?_
            refine lv_iload_n hx hb d_Pile_reachAll_56 rfl (lv_at hl 0 rfl) ?_
            have hin : vp_in (nI k) 200 := by first | assumption | exact vp_in_nI (by omega) (by decide)
            refine va_iald (f := so) (n := 200) hx hb hK hP 1 0 rfl rfl hin d_Pile_reachAll_57 ?_
            rw [nI_clamp (show k < 2 ^ 31 by omega)]
            refine lv_iconst (v := 4) hx hb d_Pile_reachAll_58 (by decide) ?_
            refine lv_icmp_ne hx hb d_Pile_reachAll_59 rfl (fun h59 => ?_) (fun h59 => ?_)
            · refine lv_iinc (k := 0) (v := (nI (k + 1))) (lv' := [(2, .int (nI (k + 1))), (0, .ref (ad 0)), (1, .ref (ah 0))]) hx hb d_Pile_reachAll_72 hl rfl ((nI_succ k).symm) (by decide) rfl (fun ls hl => ?_)
              refine lv_goto hx hb d_Pile_reachAll_75 rfl ?_
              exact ih (k + 1) Z _ _ _ (by omega) (by exact hZ) (by rw [hq, pl_reachN]; congr 1; unfold pl_reach1; (first | rw [if_pos h16] | rw [if_neg h16]); (first | rw [if_pos h26] | rw [if_neg h26]); (first | rw [if_pos h49] | rw [if_neg h49]); (first | rw [if_pos h59] | rw [if_neg h59])) (lv_sub hl [0, 1, 2] rfl) hP hD hS
            · refine lv_aload_n hx hb d_Pile_reachAll_62 rfl (lv_at hl 2 rfl) ?_
              refine lv_aload_n hx hb d_Pile_reachAll_63 rfl (lv_at hl 1 rfl) ?_
              refine va_get (D := (dC, dI)) (ci := 2) (v := .ref (ad 3)) (C := R_Pile) (T := F_Pile) (N := 5) hx hb hts (fun q hq => List.mem_cons_of_mem _ (i_Pile q hq)) hown hK hP 0 rfl rfl 2 (by decide) (hts _ (List.mem_cons_of_mem _ m_1_15)) (fun _ h9 => h9) rfl d_Pile_reachAll_64 ?_
              refine lv_iload_n hx hb d_Pile_reachAll_67 rfl (lv_at hl 0 rfl) ?_
              have hin : vp_in (nI k) 200 := by first | assumption | exact vp_in_nI (by omega) (by decide)
              refine va_iald (f := se) (n := 200) hx hb hK hP 3 0 rfl rfl hin d_Pile_reachAll_68 ?_
              rw [nI_clamp (show k < 2 ^ 31 by omega)]
              refine lm_vv (b := ah 0) (As := [.int (se k)]) (rest := []) (wr := (pl_W cA ad (so, fi, se, (nI z), mo))) ⟨hx, hb, hml, hown, hts⟩ hK hP hD hS hA [4, 5, 6, 7, 8, 9, 10] [0, 1, 2, 3] rfl rfl (by decide) (by decide) (by decide) (c_Heap_reach l dC dI cA ah _ Z (se k) (by exact (hc k (by omega)).2 (by first | exact Or.inl h49 | exact Or.inr h59)) (by exact hZ)) (cwV 1 hts (lm_gV m_5_17 m_5_9 m_5_10 m_0_2 m_5_11) rfl rfl rfl (by decide +kernel) ⟨Nat.le_of_ble_eq_true rfl, Nat.le_of_ble_eq_true rfl⟩) (va_recv (q0 := 4) hK hP rfl rfl) lm_bl_no (fun _ _ _ => trivial) hl.1 rfl rfl (Nat.le_of_ble_eq_true rfl) d_Pile_reachAll_69 ⟨Nat.le_of_ble_eq_true rfl, Nat.le_of_ble_eq_true rfl⟩ (fun u69 H locs w69 hP hD hS => ?_)
              have hP : va_P (dC, dI) classes ((pl_W cA ad (so, fi, se, (nI z), mo)) ++ (hp_W cA ah u69)) H := hP
              have hD : va_D A ((pl_W cA ad (so, fi, se, (nI z), mo)) ++ (hp_W cA ah u69)) := hD
              refine lv_iinc (k := 0) (v := (nI (k + 1))) (lv' := [(2, .int (nI (k + 1))), (0, .ref (ad 0)), (1, .ref (ah 0))]) hx hb d_Pile_reachAll_72 hl rfl ((nI_succ k).symm) (by decide) rfl (fun ls hl => ?_)
              refine lv_goto hx hb d_Pile_reachAll_75 rfl ?_
              exact ih (k + 1) u69 _ _ _ (by omega) (by rw [w69]; exact hp_mk_reach hZ ((hc k (by omega)).2 (by first | exact Or.inl h49 | exact Or.inr h59))) (by rw [hq, pl_reachN]; congr 1; rw [w69]; unfold pl_reach1; (first | rw [if_pos h16] | rw [if_neg h16]); (first | rw [if_pos h26] | rw [if_neg h26]); (first | rw [if_pos h49] | rw [if_neg h49]); (first | rw [if_pos h59] | rw [if_neg h59])) (lv_sub hl [0, 1, 2] rfl) hP hD hS
        · refine lv_aload_n hx hb d_Pile_reachAll_29 rfl (lv_at hl 2 rfl) ?_
          refine lv_aload_n hx hb d_Pile_reachAll_30 rfl (lv_at hl 1 rfl) ?_
          refine va_get (D := (dC, dI)) (ci := 2) (v := .ref (ad 2)) (C := R_Pile) (T := F_Pile) (N := 5) hx hb hts (fun q hq => List.mem_cons_of_mem _ (i_Pile q hq)) hown hK hP 0 rfl rfl 1 (by decide) (hts _ (List.mem_cons_of_mem _ m_1_14)) (fun _ h9 => h9) rfl d_Pile_reachAll_31 ?_
          refine lv_iload_n hx hb d_Pile_reachAll_34 rfl (lv_at hl 0 rfl) ?_
          have hin : vp_in (nI k) 200 := by first | assumption | exact vp_in_nI (by omega) (by decide)
          refine va_iald (f := fi) (n := 200) hx hb hK hP 2 0 rfl rfl hin d_Pile_reachAll_35 ?_
          rw [nI_clamp (show k < 2 ^ 31 by omega)]
          refine lm_vv (b := ah 0) (As := [.int (fi k)]) (rest := []) (wr := (pl_W cA ad (so, fi, se, (nI z), mo))) ⟨hx, hb, hml, hown, hts⟩ hK hP hD hS hA [4, 5, 6, 7, 8, 9, 10] [0, 1, 2, 3] rfl rfl (by decide) (by decide) (by decide) (c_Heap_reach l dC dI cA ah _ Z (fi k) (by exact (hc k (by omega)).1 (by first | exact Or.inl h16 | exact Or.inr h26)) (by exact hZ)) (cwV 1 hts (lm_gV m_5_17 m_5_9 m_5_10 m_0_2 m_5_11) rfl rfl rfl (by decide +kernel) ⟨Nat.le_of_ble_eq_true rfl, Nat.le_of_ble_eq_true rfl⟩) (va_recv (q0 := 4) hK hP rfl rfl) lm_bl_no (fun _ _ _ => trivial) hl.1 rfl rfl (Nat.le_of_ble_eq_true rfl) d_Pile_reachAll_36 ⟨Nat.le_of_ble_eq_true rfl, Nat.le_of_ble_eq_true rfl⟩ (fun u36 H locs w36 hP hD hS => ?_)
          have hP : va_P (dC, dI) classes ((pl_W cA ad (so, fi, se, (nI z), mo)) ++ (hp_W cA ah u36)) H := hP
          have hD : va_D A ((pl_W cA ad (so, fi, se, (nI z), mo)) ++ (hp_W cA ah u36)) := hD
          refine lv_goto hx hb d_Pile_reachAll_39 rfl ?_
          refine lv_iinc (k := 0) (v := (nI (k + 1))) (lv' := [(2, .int (nI (k + 1))), (0, .ref (ad 0)), (1, .ref (ah 0))]) hx hb d_Pile_reachAll_72 hl rfl ((nI_succ k).symm) (by decide) rfl (fun ls hl => ?_)
          refine lv_goto hx hb d_Pile_reachAll_75 rfl ?_
          exact ih (k + 1) u36 _ _ _ (by omega) (by rw [w36]; exact hp_mk_reach hZ ((hc k (by omega)).1 (by first | exact Or.inl h16 | exact Or.inr h26))) (by rw [hq, pl_reachN]; congr 1; rw [w36]; unfold pl_reach1; (first | rw [if_pos h16] | rw [if_neg h16]); (first | rw [if_pos h26] | rw [if_neg h26])) (lv_sub hl [0, 1, 2] rfl) hP hD hS
  exact loop z 0 K _ _ _ (by omega) (by exact hm) (by unfold pl_reach; rw [show (p_sz (so, fi, se, nI z, mo)).toNatClampNeg = z from nI_clamp (by omega)]) hl hP hD hS
end
section
set_option maxHeartbeats 4000000 in
set_option maxRecDepth 100000 in
theorem c_Term_size (l : Launch) (dC : Nat → ClassId) (dI : Nat → Nat → Nat) (cA : ClassId)  (ad : Nat → Nat) (sz : Nat) (S : ZTS)   : Met l y_Term_size w_Term_size ({ frames := 0, cells := 0, slots := 0, locals := 0 } : Room) (va_Pc [.ref (ad 0)] (lm_pre (dC, dI) classes [(cA, .int)] (tm_W cA ad S) sz lm_no)) (va_Qi (fun (r : Int32) (u : ZTS) => r = t_sz S ∧ u = S) (fun u => lm_at (dC, dI) classes [(cA, .int)] (va_A (tm_W cA ad S) sz) (tm_W cA ad u)) (va_A (tm_W cA ad S) sz)) 0 0 (va_A (tm_W cA ad S) sz) := by
  obtain ⟨so, xs, pa, pm, bi, op, zz⟩ := S
  refine lm_met (fun A => va_Qi (fun (r : Int32) (u : ZTS) => r = t_sz (so, xs, pa, pm, bi, op, zz) ∧ u = (so, xs, pa, pm, bi, op, zz)) (fun u => lm_at (dC, dI) classes [(cA, .int)] A (tm_W cA ad u)) A) (by decide) rfl (Nat.le_of_ble_eq_true rfl) ?_
  intro p e s m below meth c A hx hb hr hts hown hlocks hname hml hK hP hD hA hE hsz hAe hS ls hl
  replace hl : lv_has ls 1 [(0, .ref (ad 0))] := hl
  clear hAe hsz
  refine lv_aload_n hx hb d_Term_size_0 rfl (lv_at hl 0 rfl) ?_
  refine va_get (D := (dC, dI)) (ci := 3) (v := .int zz) (C := R_Term) (T := F_Term) (N := 7) hx hb hts (fun q hq => List.mem_cons_of_mem _ (i_Term q hq)) hown hK hP 0 rfl rfl 6 (by decide) (hts _ (List.mem_cons_of_mem _ m_2_6)) (fun _ h9 => h9) rfl d_Term_size_1 ?_
  refine lm_ri (v := zz) hx hb hr hlocks (so, xs, pa, pm, bi, op, zz) ?_ hP hK hD hS d_Term_size_4
  exact ⟨rfl, rfl⟩
set_option maxHeartbeats 4000000 in
set_option maxRecDepth 100000 in
theorem c_Term_sort (l : Launch) (dC : Nat → ClassId) (dI : Nat → Nat → Nat) (cA : ClassId)  (ad : Nat → Nat) (sz : Nat) (S : ZTS) (x : Int32) (hx1 : vp_in x 200) : Met l y_Term_sort w_Term_sort ({ frames := 0, cells := 0, slots := 0, locals := 0 } : Room) (va_Pc [.ref (ad 0), .int x] (lm_pre (dC, dI) classes [(cA, .int)] (tm_W cA ad S) sz lm_no)) (va_Qi (fun (r : Int32) (u : ZTS) => r = t_so S x.toNatClampNeg ∧ u = S) (fun u => lm_at (dC, dI) classes [(cA, .int)] (va_A (tm_W cA ad S) sz) (tm_W cA ad u)) (va_A (tm_W cA ad S) sz)) 0 0 (va_A (tm_W cA ad S) sz) := by
  obtain ⟨so, xs, pa, pm, bi, op, zz⟩ := S
  refine lm_met (fun A => va_Qi (fun (r : Int32) (u : ZTS) => r = t_so (so, xs, pa, pm, bi, op, zz) x.toNatClampNeg ∧ u = (so, xs, pa, pm, bi, op, zz)) (fun u => lm_at (dC, dI) classes [(cA, .int)] A (tm_W cA ad u)) A) (by decide) rfl (Nat.le_of_ble_eq_true rfl) ?_
  intro p e s m below meth c A hx hb hr hts hown hlocks hname hml hK hP hD hA hE hsz hAe hS ls hl
  replace hl : lv_has ls 2 [(0, .ref (ad 0)), (1, .int x)] := hl
  clear hAe hsz
  refine lv_aload_n hx hb d_Term_sort_0 rfl (lv_at hl 0 rfl) ?_
  refine va_get (D := (dC, dI)) (ci := 3) (v := .ref (ad 1)) (C := R_Term) (T := F_Term) (N := 7) hx hb hts (fun q hq => List.mem_cons_of_mem _ (i_Term q hq)) hown hK hP 0 rfl rfl 0 (by decide) (hts _ (List.mem_cons_of_mem _ m_2_0)) (fun _ h9 => h9) rfl d_Term_sort_1 ?_
  refine lv_iload_n hx hb d_Term_sort_4 rfl (lv_at hl 1 rfl) ?_
  have hin : vp_in x 200 := by first | assumption | exact vp_in_nI (by omega) (by decide)
  refine va_iald (f := so) (n := 200) hx hb hK hP 1 0 rfl rfl hin d_Term_sort_5 ?_
  refine lm_ri (v := (so x.toNatClampNeg)) hx hb hr hlocks (so, xs, pa, pm, bi, op, zz) ?_ hP hK hD hS d_Term_sort_6
  exact ⟨rfl, rfl⟩
set_option maxHeartbeats 4000000 in
set_option maxRecDepth 100000 in
theorem c_Term_x (l : Launch) (dC : Nat → ClassId) (dI : Nat → Nat → Nat) (cA : ClassId)  (ad : Nat → Nat) (sz : Nat) (S : ZTS) (x : Int32) (hx1 : vp_in x 200) : Met l y_Term_x w_Term_x ({ frames := 0, cells := 0, slots := 0, locals := 0 } : Room) (va_Pc [.ref (ad 0), .int x] (lm_pre (dC, dI) classes [(cA, .int)] (tm_W cA ad S) sz lm_no)) (va_Qi (fun (r : Int32) (u : ZTS) => r = t_xs S x.toNatClampNeg ∧ u = S) (fun u => lm_at (dC, dI) classes [(cA, .int)] (va_A (tm_W cA ad S) sz) (tm_W cA ad u)) (va_A (tm_W cA ad S) sz)) 0 0 (va_A (tm_W cA ad S) sz) := by
  obtain ⟨so, xs, pa, pm, bi, op, zz⟩ := S
  refine lm_met (fun A => va_Qi (fun (r : Int32) (u : ZTS) => r = t_xs (so, xs, pa, pm, bi, op, zz) x.toNatClampNeg ∧ u = (so, xs, pa, pm, bi, op, zz)) (fun u => lm_at (dC, dI) classes [(cA, .int)] A (tm_W cA ad u)) A) (by decide) rfl (Nat.le_of_ble_eq_true rfl) ?_
  intro p e s m below meth c A hx hb hr hts hown hlocks hname hml hK hP hD hA hE hsz hAe hS ls hl
  replace hl : lv_has ls 2 [(0, .ref (ad 0)), (1, .int x)] := hl
  clear hAe hsz
  refine lv_aload_n hx hb d_Term_x_0 rfl (lv_at hl 0 rfl) ?_
  refine va_get (D := (dC, dI)) (ci := 3) (v := .ref (ad 2)) (C := R_Term) (T := F_Term) (N := 7) hx hb hts (fun q hq => List.mem_cons_of_mem _ (i_Term q hq)) hown hK hP 0 rfl rfl 1 (by decide) (hts _ (List.mem_cons_of_mem _ m_2_1)) (fun _ h9 => h9) rfl d_Term_x_1 ?_
  refine lv_iload_n hx hb d_Term_x_4 rfl (lv_at hl 1 rfl) ?_
  have hin : vp_in x 200 := by first | assumption | exact vp_in_nI (by omega) (by decide)
  refine va_iald (f := xs) (n := 200) hx hb hK hP 2 0 rfl rfl hin d_Term_x_5 ?_
  refine lm_ri (v := (xs x.toNatClampNeg)) hx hb hr hlocks (so, xs, pa, pm, bi, op, zz) ?_ hP hK hD hS d_Term_x_6
  exact ⟨rfl, rfl⟩
set_option maxHeartbeats 4000000 in
set_option maxRecDepth 100000 in
theorem c_Term_part (l : Launch) (dC : Nat → ClassId) (dI : Nat → Nat → Nat) (cA : ClassId)  (ad : Nat → Nat) (sz : Nat) (S : ZTS) (x y : Int32) (hx1 : vp_in (x * 3 + y) 600) : Met l y_Term_part w_Term_part ({ frames := 0, cells := 0, slots := 0, locals := 0 } : Room) (va_Pc [.ref (ad 0), .int x, .int y] (lm_pre (dC, dI) classes [(cA, .int)] (tm_W cA ad S) sz lm_no)) (va_Qi (fun (r : Int32) (u : ZTS) => r = tm_part S x y ∧ u = S) (fun u => lm_at (dC, dI) classes [(cA, .int)] (va_A (tm_W cA ad S) sz) (tm_W cA ad u)) (va_A (tm_W cA ad S) sz)) 0 0 (va_A (tm_W cA ad S) sz) := by
  obtain ⟨so, xs, pa, pm, bi, op, zz⟩ := S
  refine lm_met (fun A => va_Qi (fun (r : Int32) (u : ZTS) => r = tm_part (so, xs, pa, pm, bi, op, zz) x y ∧ u = (so, xs, pa, pm, bi, op, zz)) (fun u => lm_at (dC, dI) classes [(cA, .int)] A (tm_W cA ad u)) A) (by decide) rfl (Nat.le_of_ble_eq_true rfl) ?_
  intro p e s m below meth c A hx hb hr hts hown hlocks hname hml hK hP hD hA hE hsz hAe hS ls hl
  replace hl : lv_has ls 3 [(0, .ref (ad 0)), (1, .int x), (2, .int y)] := hl
  clear hAe hsz
  refine lv_aload_n hx hb d_Term_part_0 rfl (lv_at hl 0 rfl) ?_
  refine va_get (D := (dC, dI)) (ci := 3) (v := .ref (ad 3)) (C := R_Term) (T := F_Term) (N := 7) hx hb hts (fun q hq => List.mem_cons_of_mem _ (i_Term q hq)) hown hK hP 0 rfl rfl 2 (by decide) (hts _ (List.mem_cons_of_mem _ m_2_2)) (fun _ h9 => h9) rfl d_Term_part_1 ?_
  refine lv_iload_n hx hb d_Term_part_4 rfl (lv_at hl 1 rfl) ?_
  refine lv_iconst (v := 3) hx hb d_Term_part_5 (by decide) ?_
  refine lv_imul hx hb d_Term_part_6 ?_
  refine lv_iload_n hx hb d_Term_part_7 rfl (lv_at hl 2 rfl) ?_
  refine lv_iadd hx hb d_Term_part_8 ?_
  have hin : vp_in ((x * 3) + y) 600 := by first | assumption | exact vp_in_nI (by omega) (by decide)
  refine va_iald (f := pa) (n := 600) hx hb hK hP 3 0 rfl rfl hin d_Term_part_9 ?_
  refine lm_ri (v := (pa ((x * 3) + y).toNatClampNeg)) hx hb hr hlocks (so, xs, pa, pm, bi, op, zz) ?_ hP hK hD hS d_Term_part_10
  exact ⟨rfl, rfl⟩
set_option maxHeartbeats 4000000 in
set_option maxRecDepth 100000 in
theorem c_Term_clear (l : Launch) (dC : Nat → ClassId) (dI : Nat → Nat → Nat) (cA : ClassId)  (ad : Nat → Nat) (sz : Nat) (S : ZTS)   : Met l y_Term_clear w_Term_clear ({ frames := 0, cells := 0, slots := 0, locals := 0 } : Room) (va_Pc [.ref (ad 0)] (lm_pre (dC, dI) classes [(cA, .int)] (tm_W cA ad S) sz lm_no)) (va_Qv (fun (u : ZTS) => u = tm_clear S) (fun u => lm_at (dC, dI) classes [(cA, .int)] (va_A (tm_W cA ad S) sz) (tm_W cA ad u)) (va_A (tm_W cA ad S) sz)) 0 0 (va_A (tm_W cA ad S) sz) := by
  obtain ⟨so, xs, pa, pm, bi, op, zz⟩ := S
  refine lm_met (fun A => va_Qv (fun (u : ZTS) => u = tm_clear (so, xs, pa, pm, bi, op, zz)) (fun u => lm_at (dC, dI) classes [(cA, .int)] A (tm_W cA ad u)) A) (by decide) rfl (Nat.le_of_ble_eq_true rfl) ?_
  intro p e s m below meth c A hx hb hr hts hown hlocks hname hml hK hP hD hA hE hsz hAe hS ls hl
  replace hl : lv_has ls 1 [(0, .ref (ad 0))] := hl
  clear hAe hsz
  refine lv_aload_n hx hb d_Term_clear_0 rfl (lv_at hl 0 rfl) ?_
  refine lv_iconst (v := 0) hx hb d_Term_clear_1 (by decide) ?_
  refine va_put (D := (dC, dI)) (ci := 3) (v := .int 0) (ty := .int) (C := R_Term) (T := F_Term) (N := 7) hx hb hts (fun q hq => List.mem_cons_of_mem _ (i_Term q hq)) t_Term t_Term_ok n_Term hown hK hP hD hS 0 rfl rfl 6 (by decide) (hts _ (List.mem_cons_of_mem _ m_2_6)) (fun _ h9 => h9) rfl (by decide +kernel) rfl rfl (Nat.le_of_ble_eq_true rfl) d_Term_clear_2 (fun H locs hP hD hS => ?_)
  have hP : va_P (dC, dI) classes (tm_W cA ad (so, xs, pa, pm, bi, op, 0)) H := hP
  have hD : va_D A (tm_W cA ad (so, xs, pa, pm, bi, op, 0)) := hD
  refine lm_rv hx hb hr hlocks (so, xs, pa, pm, bi, op, 0) ?_ hP hK hD hS d_Term_clear_5
  rfl
set_option maxHeartbeats 4000000 in
set_option maxRecDepth 100000 in
theorem c_Term_add (l : Launch) (dC : Nat → ClassId) (dI : Nat → Nat → Nat) (cA : ClassId)  (ad : Nat → Nat) (sz : Nat) (S : ZTS) (y1 y2 : Int32) (hz : tm_ok S) : Met l y_Term_add w_Term_add ({ frames := 0, cells := 0, slots := 0, locals := 0 } : Room) (va_Pc [.ref (ad 0), .int y1, .int y2] (lm_pre (dC, dI) classes [(cA, .int)] (tm_W cA ad S) sz lm_no)) (va_Qi (fun (r : Int32) (u : ZTS) => r = (tm_add S y1 y2).1 ∧ u = (tm_add S y1 y2).2) (fun u => lm_at (dC, dI) classes [(cA, .int)] (va_A (tm_W cA ad S) sz) (tm_W cA ad u)) (va_A (tm_W cA ad S) sz)) 0 0 (va_A (tm_W cA ad S) sz) := by
  obtain ⟨so, xs, pa, pm, bi, op, zz⟩ := S
  obtain ⟨z, hz, hzz⟩ := hz
  have hzz : zz = nI z := hzz
  subst hzz
  refine lm_met (fun A => va_Qi (fun (r : Int32) (u : ZTS) => r = (tm_add (so, xs, pa, pm, bi, op, (nI z)) y1 y2).1 ∧ u = (tm_add (so, xs, pa, pm, bi, op, (nI z)) y1 y2).2) (fun u => lm_at (dC, dI) classes [(cA, .int)] A (tm_W cA ad u)) A) (by decide) rfl (Nat.le_of_ble_eq_true rfl) ?_
  intro p e s m below meth c A hx hb hr hts hown hlocks hname hml hK hP hD hA hE hsz hAe hS ls hl
  replace hl : lv_has ls 3 [(0, .ref (ad 0)), (1, .int y1), (2, .int y2)] := hl
  clear hAe hsz
  refine lv_aload_n hx hb d_Term_add_0 rfl (lv_at hl 0 rfl) ?_
  refine va_get (D := (dC, dI)) (ci := 3) (v := .int (nI z)) (C := R_Term) (T := F_Term) (N := 7) hx hb hts (fun q hq => List.mem_cons_of_mem _ (i_Term q hq)) hown hK hP 0 rfl rfl 6 (by decide) (hts _ (List.mem_cons_of_mem _ m_2_6)) (fun _ h9 => h9) rfl d_Term_add_1 ?_
  refine lv_sipush (v := 200) hx hb d_Term_add_4 (by decide) ?_
  refine lv_icmp_ne hx hb d_Term_add_7 rfl (fun h7 => ?_) (fun h7 => ?_)
  · have hlt : z < 200 := by
      rcases Nat.lt_or_ge z 200 with h9 | h9
      · exact h9
      · exact absurd (by rw [show z = 200 by omega]; rfl) h7
    refine lv_aload_n hx hb d_Term_add_12 rfl (lv_at hl 0 rfl) ?_
    refine va_get (D := (dC, dI)) (ci := 3) (v := .ref (ad 1)) (C := R_Term) (T := F_Term) (N := 7) hx hb hts (fun q hq => List.mem_cons_of_mem _ (i_Term q hq)) hown hK hP 0 rfl rfl 0 (by decide) (hts _ (List.mem_cons_of_mem _ m_2_0)) (fun _ h9 => h9) rfl d_Term_add_13 ?_
    refine lv_aload_n hx hb d_Term_add_16 rfl (lv_at hl 0 rfl) ?_
    refine va_get (D := (dC, dI)) (ci := 3) (v := .int (nI z)) (C := R_Term) (T := F_Term) (N := 7) hx hb hts (fun q hq => List.mem_cons_of_mem _ (i_Term q hq)) hown hK hP 0 rfl rfl 6 (by decide) (hts _ (List.mem_cons_of_mem _ m_2_6)) (fun _ h9 => h9) rfl d_Term_add_17 ?_
    refine lv_iload_n hx hb d_Term_add_20 rfl (lv_at hl 1 rfl) ?_
    have hin : vp_in (nI z) 200 := by first | assumption | exact vp_in_nI (by omega) (by decide)
    refine va_iast (f := so) (n := 200) hx hb hK hP hD hS 1 0 rfl rfl hin d_Term_add_21 (fun H locs hP hD hS => ?_)
    rw [nI_clamp (show z < 2 ^ 31 by omega)] at hP hD
    have hP : va_P (dC, dI) classes (tm_W cA ad ((upd so z y1), xs, pa, pm, bi, op, (nI z))) H := hP
    have hD : va_D A (tm_W cA ad ((upd so z y1), xs, pa, pm, bi, op, (nI z))) := hD
    refine lv_aload_n hx hb d_Term_add_22 rfl (lv_at hl 0 rfl) ?_
    refine va_get (D := (dC, dI)) (ci := 3) (v := .ref (ad 2)) (C := R_Term) (T := F_Term) (N := 7) hx hb hts (fun q hq => List.mem_cons_of_mem _ (i_Term q hq)) hown hK hP 0 rfl rfl 1 (by decide) (hts _ (List.mem_cons_of_mem _ m_2_1)) (fun _ h9 => h9) rfl d_Term_add_23 ?_
    refine lv_aload_n hx hb d_Term_add_26 rfl (lv_at hl 0 rfl) ?_
    refine va_get (D := (dC, dI)) (ci := 3) (v := .int (nI z)) (C := R_Term) (T := F_Term) (N := 7) hx hb hts (fun q hq => List.mem_cons_of_mem _ (i_Term q hq)) hown hK hP 0 rfl rfl 6 (by decide) (hts _ (List.mem_cons_of_mem _ m_2_6)) (fun _ h9 => h9) rfl d_Term_add_27 ?_
    refine lv_iload_n hx hb d_Term_add_30 rfl (lv_at hl 2 rfl) ?_
    have hin : vp_in (nI z) 200 := by first | assumption | exact vp_in_nI (by omega) (by decide)
    refine va_iast (f := xs) (n := 200) hx hb hK hP hD hS 2 0 rfl rfl hin d_Term_add_31 (fun H locs hP hD hS => ?_)
    rw [nI_clamp (show z < 2 ^ 31 by omega)] at hP hD
    have hP : va_P (dC, dI) classes (tm_W cA ad ((upd so z y1), (upd xs z y2), pa, pm, bi, op, (nI z))) H := hP
    have hD : va_D A (tm_W cA ad ((upd so z y1), (upd xs z y2), pa, pm, bi, op, (nI z))) := hD
    refine lv_aload_n hx hb d_Term_add_32 rfl (lv_at hl 0 rfl) ?_
    refine lv_dup hx hb d_Term_add_33 rfl ?_
    refine va_get (D := (dC, dI)) (ci := 3) (v := .int (nI z)) (C := R_Term) (T := F_Term) (N := 7) hx hb hts (fun q hq => List.mem_cons_of_mem _ (i_Term q hq)) hown hK hP 0 rfl rfl 6 (by decide) (hts _ (List.mem_cons_of_mem _ m_2_6)) (fun _ h9 => h9) rfl d_Term_add_34 ?_
    refine lv_iconst (v := 1) hx hb d_Term_add_37 (by decide) ?_
    refine lv_iadd hx hb d_Term_add_38 ?_
    refine lv_topi (fun z_ e_ => ?_)
    have e_ : z_ = nI (z + 1) := e_.trans ((nI_succ z).symm)
    subst e_
    refine va_put (D := (dC, dI)) (ci := 3) (v := .int (nI (z + 1))) (ty := .int) (C := R_Term) (T := F_Term) (N := 7) hx hb hts (fun q hq => List.mem_cons_of_mem _ (i_Term q hq)) t_Term t_Term_ok n_Term hown hK hP hD hS 0 rfl rfl 6 (by decide) (hts _ (List.mem_cons_of_mem _ m_2_6)) (fun _ h9 => h9) rfl (by decide +kernel) rfl rfl (Nat.le_of_ble_eq_true rfl) d_Term_add_39 (fun H locs hP hD hS => ?_)
    have hP : va_P (dC, dI) classes (tm_W cA ad ((upd so z y1), (upd xs z y2), pa, pm, bi, op, (nI (z + 1)))) H := hP
    have hD : va_D A (tm_W cA ad ((upd so z y1), (upd xs z y2), pa, pm, bi, op, (nI (z + 1)))) := hD
    refine lv_iconst (v := 1) hx hb d_Term_add_42 (by decide) ?_
    refine lm_rz (v := 1) hx hb hr hlocks (by decide) ((upd so z y1), (upd xs z y2), pa, pm, bi, op, (nI (z + 1))) ?_ hP hK hD hS d_Term_add_43
    unfold tm_add; rw [if_neg h7]; refine ⟨rfl, ?_⟩; simp only [t_sz, t_so, t_xs, nI_clamp (show z < 2 ^ 31 by omega), nI_succ]
  · refine lv_iconst (v := 0) hx hb d_Term_add_10 (by decide) ?_
    refine lm_rz (v := 0) hx hb hr hlocks (by decide) (so, xs, pa, pm, bi, op, (nI z)) ?_ hP hK hD hS d_Term_add_11
    unfold tm_add; rw [if_pos h7]; exact ⟨rfl, rfl⟩
set_option maxHeartbeats 4000000 in
set_option maxRecDepth 100000 in
theorem c_Term_bindsIn (l : Launch) (dC : Nat → ClassId) (dI : Nat → Nat → Nat) (cA : ClassId)   (sz : Nat)  (y1 y2 : Int32)  : Met l y_Term_bindsIn w_Term_bindsIn ({ frames := 0, cells := 0, slots := 0, locals := 0 } : Room) (va_Pc [.int y1, .int y2] (lm_pre (dC, dI) classes [(cA, .int)] (([] : va_W)) sz lm_no)) (va_Qi (fun (r : Int32) (u : Unit) => r = tm_binds y1 y2 ∧ u = ()) (fun u => lm_at (dC, dI) classes [(cA, .int)] (va_A (([] : va_W)) sz) (([] : va_W))) (va_A (([] : va_W)) sz)) 0 0 (va_A (([] : va_W)) sz) := by
  refine lm_met (fun A => va_Qi (fun (r : Int32) (u : Unit) => r = tm_binds y1 y2 ∧ u = ()) (fun u => lm_at (dC, dI) classes [(cA, .int)] A (([] : va_W))) A) (by decide) rfl (Nat.le_of_ble_eq_true rfl) ?_
  intro p e s m below meth c A hx hb hr hts hown hlocks hname hml hK hP hD hA hE hsz hAe hS ls hl
  replace hl : lv_has ls 2 [(0, .int y1), (1, .int y2)] := hl
  clear hAe hsz
  refine lv_iload_n hx hb d_Term_bindsIn_0 rfl (lv_at hl 0 rfl) ?_
  refine lv_iconst (v := 1) hx hb d_Term_bindsIn_1 (by decide) ?_
  refine lv_icmp_eq hx hb d_Term_bindsIn_2 rfl (fun h2 => ?_) (fun h2 => ?_)
  · refine lv_iconst (v := 1) hx hb d_Term_bindsIn_22 (by decide) ?_
    refine lv_goto hx hb d_Term_bindsIn_23 rfl ?_
    refine lm_rz (v := 1) hx hb hr hlocks (by decide) () ?_ hP hK hD hS d_Term_bindsIn_27
    simp [tm_binds, t_so, t_xs, t_pa, t_pm, t_bi, t_op, t_sz, h2]
  · refine lv_iload_n hx hb d_Term_bindsIn_5 rfl (lv_at hl 0 rfl) ?_
    refine lv_bipush (v := 9) hx hb d_Term_bindsIn_6 (by decide) ?_
    refine lv_icmp_eq hx hb d_Term_bindsIn_8 rfl (fun h8 => ?_) (fun h8 => ?_)
    · refine lv_iconst (v := 1) hx hb d_Term_bindsIn_22 (by decide) ?_
      refine lv_goto hx hb d_Term_bindsIn_23 rfl ?_
      refine lm_rz (v := 1) hx hb hr hlocks (by decide) () ?_ hP hK hD hS d_Term_bindsIn_27
      simp [tm_binds, t_so, t_xs, t_pa, t_pm, t_bi, t_op, t_sz, h2, h8]
    · refine lv_iload_n hx hb d_Term_bindsIn_11 rfl (lv_at hl 0 rfl) ?_
      refine lv_bipush (v := 10) hx hb d_Term_bindsIn_12 (by decide) ?_
      refine lv_icmp_ne hx hb d_Term_bindsIn_14 rfl (fun h14 => ?_) (fun h14 => ?_)
      · refine lv_iconst (v := 0) hx hb d_Term_bindsIn_26 (by decide) ?_
        refine lm_rz (v := 0) hx hb hr hlocks (by decide) () ?_ hP hK hD hS d_Term_bindsIn_27
        simp [tm_binds, t_so, t_xs, t_pa, t_pm, t_bi, t_op, t_sz, h2, h8, h14]
      · refine lv_iload_n hx hb d_Term_bindsIn_17 rfl (lv_at hl 1 rfl) ?_
        refine lv_iconst (v := 1) hx hb d_Term_bindsIn_18 (by decide) ?_
        refine lv_icmp_ne hx hb d_Term_bindsIn_19 rfl (fun h19 => ?_) (fun h19 => ?_)
        · refine lv_iconst (v := 0) hx hb d_Term_bindsIn_26 (by decide) ?_
          refine lm_rz (v := 0) hx hb hr hlocks (by decide) () ?_ hP hK hD hS d_Term_bindsIn_27
          simp [tm_binds, t_so, t_xs, t_pa, t_pm, t_bi, t_op, t_sz, h2, h8, h14, h19]
        · refine lv_iconst (v := 1) hx hb d_Term_bindsIn_22 (by decide) ?_
          refine lv_goto hx hb d_Term_bindsIn_23 rfl ?_
          refine lm_rz (v := 1) hx hb hr hlocks (by decide) () ?_ hP hK hD hS d_Term_bindsIn_27
          simp [tm_binds, t_so, t_xs, t_pa, t_pm, t_bi, t_op, t_sz, h2, h8, h14, h19]
end
section
set_option maxHeartbeats 4000000 in
set_option maxRecDepth 100000 in
theorem c_Term_givePart (l : Launch) (dC : Nat → ClassId) (dI : Nat → Nat → Nat) (cA : ClassId) (tp : Nat) (ad : Nat → Nat) (sz : Nat) (S : ZTS) (x1 x2 : Int32) (hx1 : vp_in x1 200) (hx2 : vp_in x2 200) (hw : vp_in (x1 * 3 + t_pm S x1.toNatClampNeg) 600) (hs : vp_in (t_so S x1.toNatClampNeg) 14) : Met l y_Term_givePart w_Term_givePart ({ frames := 1, cells := 0, slots := 0, locals := 21 } : Room) (va_Pc [.ref (ad 0), .int x1, .int x2] (lm_pre (dC, dI) classes [(cA, .int)] (tm_W cA ad S) sz (tm_E tp (va_A (tm_W cA ad S) sz)))) (va_Qi (fun (r : Int32) (u : ZTS) => r = (tm_give S x1 x2).1 ∧ u = (tm_give S x1 x2).2) (fun u => lm_at (dC, dI) classes [(cA, .int)] (va_A (tm_W cA ad S) sz) (tm_W cA ad u)) (va_A (tm_W cA ad S) sz)) 0 0 (va_A (tm_W cA ad S) sz) := by
  obtain ⟨so, xs, pa, pm, bi, op, zz⟩ := S
  refine lm_met (fun A => va_Qi (fun (r : Int32) (u : ZTS) => r = (tm_give (so, xs, pa, pm, bi, op, zz) x1 x2).1 ∧ u = (tm_give (so, xs, pa, pm, bi, op, zz) x1 x2).2) (fun u => lm_at (dC, dI) classes [(cA, .int)] A (tm_W cA ad u)) A) (by decide) rfl (Nat.le_of_ble_eq_true rfl) ?_
  intro p e s m below meth c A hx hb hr hts hown hlocks hname hml hK hP hD hA hE hsz hAe hS ls hl
  replace hl : lv_has ls 4 [(0, .ref (ad 0)), (1, .int x1), (2, .int x2)] := hl
  subst hsz
  rw [← hAe] at hE
  clear hAe
  have hN := hE.1
  have hZ := hE.2.1
  have hT := hE.2.2
  refine lv_aload_n hx hb d_Term_givePart_0 rfl (lv_at hl 0 rfl) ?_
  refine va_get (D := (dC, dI)) (ci := 3) (v := .ref (ad 4)) (C := R_Term) (T := F_Term) (N := 7) hx hb hts (fun q hq => List.mem_cons_of_mem _ (i_Term q hq)) hown hK hP 0 rfl rfl 3 (by decide) (hts _ (List.mem_cons_of_mem _ m_2_3)) (fun _ h9 => h9) rfl d_Term_givePart_1 ?_
  refine lv_iload_n hx hb d_Term_givePart_4 rfl (lv_at hl 1 rfl) ?_
  have hin : vp_in x1 200 := by first | assumption | exact vp_in_nI (by omega) (by decide)
  refine va_iald (f := pm) (n := 200) hx hb hK hP 4 0 rfl rfl hin d_Term_givePart_5 ?_
  refine lv_topi (fun wh e_wh => ?_)
  refine lv_istore_n (lv' := [(3, .int wh), (0, .ref (ad 0)), (1, .int x1), (2, .int x2)]) hx hb d_Term_givePart_6 rfl hl (by decide) rfl (fun ls hl => ?_)
  refine lv_aload_n hx hb d_Term_givePart_7 rfl (lv_at hl 1 rfl) ?_
  refine va_get (D := (dC, dI)) (ci := 3) (v := .ref (ad 3)) (C := R_Term) (T := F_Term) (N := 7) hx hb hts (fun q hq => List.mem_cons_of_mem _ (i_Term q hq)) hown hK hP 0 rfl rfl 2 (by decide) (hts _ (List.mem_cons_of_mem _ m_2_2)) (fun _ h9 => h9) rfl d_Term_givePart_8 ?_
  refine lv_iload_n hx hb d_Term_givePart_11 rfl (lv_at hl 2 rfl) ?_
  refine lv_iconst (v := 3) hx hb d_Term_givePart_12 (by decide) ?_
  refine lv_imul hx hb d_Term_givePart_13 ?_
  refine lv_iload_n hx hb d_Term_givePart_14 rfl (lv_at hl 0 rfl) ?_
  refine lv_iadd hx hb d_Term_givePart_15 ?_
  refine lv_iload_n hx hb d_Term_givePart_16 rfl (lv_at hl 3 rfl) ?_
  have hin : vp_in ((x1 * 3) + wh) 600 := by rw [e_wh]; exact hw
  refine va_iast (f := pa) (n := 600) hx hb hK hP hD hS 3 0 rfl rfl hin d_Term_givePart_17 (fun H locs hP hD hS => ?_)
  have hP : va_P (dC, dI) classes (tm_W cA ad (so, xs, (upd pa ((x1 * 3) + wh).toNatClampNeg x2), pm, bi, op, zz)) H := hP
  have hD : va_D A (tm_W cA ad (so, xs, (upd pa ((x1 * 3) + wh).toNatClampNeg x2), pm, bi, op, zz)) := hD
  refine lv_aload_n hx hb d_Term_givePart_18 rfl (lv_at hl 1 rfl) ?_
  refine va_get (D := (dC, dI)) (ci := 3) (v := .ref (ad 4)) (C := R_Term) (T := F_Term) (N := 7) hx hb hts (fun q hq => List.mem_cons_of_mem _ (i_Term q hq)) hown hK hP 0 rfl rfl 3 (by decide) (hts _ (List.mem_cons_of_mem _ m_2_3)) (fun _ h9 => h9) rfl d_Term_givePart_19 ?_
  refine lv_iload_n hx hb d_Term_givePart_22 rfl (lv_at hl 2 rfl) ?_
  refine lv_iload_n hx hb d_Term_givePart_23 rfl (lv_at hl 0 rfl) ?_
  refine lv_iconst (v := 1) hx hb d_Term_givePart_24 (by decide) ?_
  refine lv_iadd hx hb d_Term_givePart_25 ?_
  have hin : vp_in x1 200 := by first | assumption | exact vp_in_nI (by omega) (by decide)
  refine va_iast (f := pm) (n := 200) hx hb hK hP hD hS 4 0 rfl rfl hin d_Term_givePart_26 (fun H locs hP hD hS => ?_)
  have hP : va_P (dC, dI) classes (tm_W cA ad (so, xs, (upd pa ((x1 * 3) + wh).toNatClampNeg x2), (upd pm x1.toNatClampNeg (wh + 1)), bi, op, zz)) H := hP
  have hD : va_D A (tm_W cA ad (so, xs, (upd pa ((x1 * 3) + wh).toNatClampNeg x2), (upd pm x1.toNatClampNeg (wh + 1)), bi, op, zz)) := hD
  refine lv_aload_n hx hb d_Term_givePart_27 rfl (lv_at hl 1 rfl) ?_
  refine va_get (D := (dC, dI)) (ci := 3) (v := .ref (ad 5)) (C := R_Term) (T := F_Term) (N := 7) hx hb hts (fun q hq => List.mem_cons_of_mem _ (i_Term q hq)) hown hK hP 0 rfl rfl 4 (by decide) (hts _ (List.mem_cons_of_mem _ m_2_4)) (fun _ h9 => h9) rfl d_Term_givePart_28 ?_
  refine lv_iload_n hx hb d_Term_givePart_31 rfl (lv_at hl 3 rfl) ?_
  refine lv_aload_n hx hb d_Term_givePart_32 rfl (lv_at hl 1 rfl) ?_
  refine va_get (D := (dC, dI)) (ci := 3) (v := .ref (ad 5)) (C := R_Term) (T := F_Term) (N := 7) hx hb hts (fun q hq => List.mem_cons_of_mem _ (i_Term q hq)) hown hK hP 0 rfl rfl 4 (by decide) (hts _ (List.mem_cons_of_mem _ m_2_4)) (fun _ h9 => h9) rfl d_Term_givePart_33 ?_
  refine lv_iload_n hx hb d_Term_givePart_36 rfl (lv_at hl 2 rfl) ?_
  have hin : vp_in x1 200 := by first | assumption | exact vp_in_nI (by omega) (by decide)
  refine va_iald (f := bi) (n := 200) hx hb hK hP 5 0 rfl rfl hin d_Term_givePart_37 ?_
  refine lv_aload_n hx hb d_Term_givePart_38 rfl (lv_at hl 1 rfl) ?_
  refine va_get (D := (dC, dI)) (ci := 3) (v := .ref (ad 1)) (C := R_Term) (T := F_Term) (N := 7) hx hb hts (fun q hq => List.mem_cons_of_mem _ (i_Term q hq)) hown hK hP 0 rfl rfl 0 (by decide) (hts _ (List.mem_cons_of_mem _ m_2_0)) (fun _ h9 => h9) rfl d_Term_givePart_39 ?_
  refine lv_iload_n hx hb d_Term_givePart_42 rfl (lv_at hl 2 rfl) ?_
  have hin : vp_in x1 200 := by first | assumption | exact vp_in_nI (by omega) (by decide)
  refine va_iald (f := so) (n := 200) hx hb hK hP 1 0 rfl rfl hin d_Term_givePart_43 ?_
  refine lv_iload_n hx hb d_Term_givePart_44 rfl (lv_at hl 0 rfl) ?_
  refine lm_si (As := [.int (so x1.toNatClampNeg), .int wh]) (rest := [.int (bi x1.toNatClampNeg), .int x2, .ref (ad 5)]) (wr := (tm_W cA ad (so, xs, (upd pa ((x1 * 3) + wh).toNatClampNeg x2), (upd pm x1.toNatClampNeg (wh + 1)), bi, op, zz))) ⟨hx, hb, hml, hown, hts⟩ hK hP hD hS hA [] [0, 1, 2, 3, 4, 5, 6] rfl rfl (by decide) (by decide) (by decide) (c_Term_bindsIn l dC dI cA  _  (so x1.toNatClampNeg) wh ) (cwS 2 hts (lm_gS m_3_7 m_3_8 m_0_4 m_3_9) rfl rfl rfl (by decide +kernel) ⟨Nat.le_of_ble_eq_true rfl, Nat.le_of_ble_eq_true rfl⟩) lm_bl_no (fun _ _ _ => trivial) hl.1 rfl rfl (Nat.le_of_ble_eq_true rfl) d_Term_givePart_45 ⟨Nat.le_of_ble_eq_true rfl, Nat.le_of_ble_eq_true rfl⟩ (fun r45 u45 H locs w45 hP hD hS => ?_)
  obtain ⟨e_r45, w45⟩ := w45
  have hP : va_P (dC, dI) classes (tm_W cA ad (so, xs, (upd pa ((x1 * 3) + wh).toNatClampNeg x2), (upd pm x1.toNatClampNeg (wh + 1)), bi, op, zz)) H := hP
  have hD : va_D A (tm_W cA ad (so, xs, (upd pa ((x1 * 3) + wh).toNatClampNeg x2), (upd pm x1.toNatClampNeg (wh + 1)), bi, op, zz)) := hD
  refine lv_if_eq hx hb d_Term_givePart_48 rfl (fun h48 => ?_) (fun h48 => ?_)
  · refine lv_iconst (v := 0) hx hb d_Term_givePart_55 (by decide) ?_
    refine lv_iadd hx hb d_Term_givePart_56 ?_
    have hin : vp_in x2 200 := by first | assumption | exact vp_in_nI (by omega) (by decide)
    refine va_iast (f := bi) (n := 200) hx hb hK hP hD hS 5 0 rfl rfl hin d_Term_givePart_57 (fun H locs hP hD hS => ?_)
    have hP : va_P (dC, dI) classes (tm_W cA ad (so, xs, (upd pa ((x1 * 3) + wh).toNatClampNeg x2), (upd pm x1.toNatClampNeg (wh + 1)), (upd bi x2.toNatClampNeg ((bi x1.toNatClampNeg) + 0)), op, zz)) H := hP
    have hD : va_D A (tm_W cA ad (so, xs, (upd pa ((x1 * 3) + wh).toNatClampNeg x2), (upd pm x1.toNatClampNeg (wh + 1)), (upd bi x2.toNatClampNeg ((bi x1.toNatClampNeg) + 0)), op, zz)) := hD
    refine lv_iload_n hx hb d_Term_givePart_58 rfl (lv_at hl 0 rfl) ?_
    refine lv_iconst (v := 1) hx hb d_Term_givePart_59 (by decide) ?_
    refine lv_iadd hx hb d_Term_givePart_60 ?_
    refine va_getsN hx hb hZ hS hown (va_Nw.use rfl hN) (fun _ h9 => h9) d_Term_givePart_61 ?_
    refine lv_aload_n hx hb d_Term_givePart_64 rfl (lv_at hl 1 rfl) ?_
    refine va_get (D := (dC, dI)) (ci := 3) (v := .ref (ad 1)) (C := R_Term) (T := F_Term) (N := 7) hx hb hts (fun q hq => List.mem_cons_of_mem _ (i_Term q hq)) hown hK hP 0 rfl rfl 0 (by decide) (hts _ (List.mem_cons_of_mem _ m_2_0)) (fun _ h9 => h9) rfl d_Term_givePart_65 ?_
    refine lv_iload_n hx hb d_Term_givePart_68 rfl (lv_at hl 2 rfl) ?_
    have hin : vp_in x1 200 := by first | assumption | exact vp_in_nI (by omega) (by decide)
    refine va_iald (f := so) (n := 200) hx hb hK hP 1 0 rfl rfl hin d_Term_givePart_69 ?_
    refine va_ti (v := .int (tm_pt (so x1.toNatClampNeg).toNatClampNeg)) hx hb hT hS (by exact hs) rfl d_Term_givePart_70 ?_
    refine lv_icmp_ne hx hb d_Term_givePart_71 rfl (fun h71 => ?_) (fun h71 => ?_)
    · refine lv_iconst (v := 0) hx hb d_Term_givePart_78 (by decide) ?_
      refine lm_rz (v := 0) hx hb hr hlocks (by decide) (so, xs, (upd pa ((x1 * 3) + wh).toNatClampNeg x2), (upd pm x1.toNatClampNeg (wh + 1)), (upd bi x2.toNatClampNeg ((bi x1.toNatClampNeg) + 0)), op, zz) ?_ hP hK hD hS d_Term_givePart_79
      subst e_wh e_r45; unfold tm_give; simp [t_so, t_pm, t_bi, t_pa, t_xs, t_op, t_sz, h48, h71]
    · refine lv_iconst (v := 1) hx hb d_Term_givePart_74 (by decide) ?_
      refine lv_goto hx hb d_Term_givePart_75 rfl ?_
      refine lm_rz (v := 1) hx hb hr hlocks (by decide) (so, xs, (upd pa ((x1 * 3) + wh).toNatClampNeg x2), (upd pm x1.toNatClampNeg (wh + 1)), (upd bi x2.toNatClampNeg ((bi x1.toNatClampNeg) + 0)), op, zz) ?_ hP hK hD hS d_Term_givePart_79
      subst e_wh e_r45; unfold tm_give; simp [t_so, t_pm, t_bi, t_pa, t_xs, t_op, t_sz, h48, h71]
  · refine lv_iconst (v := 1) hx hb d_Term_givePart_51 (by decide) ?_
    refine lv_goto hx hb d_Term_givePart_52 rfl ?_
    refine lv_iadd hx hb d_Term_givePart_56 ?_
    have hin : vp_in x2 200 := by first | assumption | exact vp_in_nI (by omega) (by decide)
    refine va_iast (f := bi) (n := 200) hx hb hK hP hD hS 5 0 rfl rfl hin d_Term_givePart_57 (fun H locs hP hD hS => ?_)
    have hP : va_P (dC, dI) classes (tm_W cA ad (so, xs, (upd pa ((x1 * 3) + wh).toNatClampNeg x2), (upd pm x1.toNatClampNeg (wh + 1)), (upd bi x2.toNatClampNeg ((bi x1.toNatClampNeg) + 1)), op, zz)) H := hP
    have hD : va_D A (tm_W cA ad (so, xs, (upd pa ((x1 * 3) + wh).toNatClampNeg x2), (upd pm x1.toNatClampNeg (wh + 1)), (upd bi x2.toNatClampNeg ((bi x1.toNatClampNeg) + 1)), op, zz)) := hD
    refine lv_iload_n hx hb d_Term_givePart_58 rfl (lv_at hl 0 rfl) ?_
    refine lv_iconst (v := 1) hx hb d_Term_givePart_59 (by decide) ?_
    refine lv_iadd hx hb d_Term_givePart_60 ?_
    refine va_getsN hx hb hZ hS hown (va_Nw.use rfl hN) (fun _ h9 => h9) d_Term_givePart_61 ?_
    refine lv_aload_n hx hb d_Term_givePart_64 rfl (lv_at hl 1 rfl) ?_
    refine va_get (D := (dC, dI)) (ci := 3) (v := .ref (ad 1)) (C := R_Term) (T := F_Term) (N := 7) hx hb hts (fun q hq => List.mem_cons_of_mem _ (i_Term q hq)) hown hK hP 0 rfl rfl 0 (by decide) (hts _ (List.mem_cons_of_mem _ m_2_0)) (fun _ h9 => h9) rfl d_Term_givePart_65 ?_
    refine lv_iload_n hx hb d_Term_givePart_68 rfl (lv_at hl 2 rfl) ?_
    have hin : vp_in x1 200 := by first | assumption | exact vp_in_nI (by omega) (by decide)
    refine va_iald (f := so) (n := 200) hx hb hK hP 1 0 rfl rfl hin d_Term_givePart_69 ?_
    refine va_ti (v := .int (tm_pt (so x1.toNatClampNeg).toNatClampNeg)) hx hb hT hS (by exact hs) rfl d_Term_givePart_70 ?_
    refine lv_icmp_ne hx hb d_Term_givePart_71 rfl (fun h71 => ?_) (fun h71 => ?_)
    · refine lv_iconst (v := 0) hx hb d_Term_givePart_78 (by decide) ?_
      refine lm_rz (v := 0) hx hb hr hlocks (by decide) (so, xs, (upd pa ((x1 * 3) + wh).toNatClampNeg x2), (upd pm x1.toNatClampNeg (wh + 1)), (upd bi x2.toNatClampNeg ((bi x1.toNatClampNeg) + 1)), op, zz) ?_ hP hK hD hS d_Term_givePart_79
      subst e_wh e_r45; unfold tm_give; simp [t_so, t_pm, t_bi, t_pa, t_xs, t_op, t_sz, h48, h71]
    · refine lv_iconst (v := 1) hx hb d_Term_givePart_74 (by decide) ?_
      refine lv_goto hx hb d_Term_givePart_75 rfl ?_
      refine lm_rz (v := 1) hx hb hr hlocks (by decide) (so, xs, (upd pa ((x1 * 3) + wh).toNatClampNeg x2), (upd pm x1.toNatClampNeg (wh + 1)), (upd bi x2.toNatClampNeg ((bi x1.toNatClampNeg) + 1)), op, zz) ?_ hP hK hD hS d_Term_givePart_79
      subst e_wh e_r45; unfold tm_give; simp [t_so, t_pm, t_bi, t_pa, t_xs, t_op, t_sz, h48, h71]
set_option maxHeartbeats 4000000 in
set_option maxRecDepth 100000 in
theorem c_Term_settle (l : Launch) (dC : Nat → ClassId) (dI : Nat → Nat → Nat) (cA : ClassId) (tp : Nat) (ad : Nat → Nat) (sz : Nat) (S : ZTS)  (hz : tm_ok S) (hso : tm_so S) : Met l y_Term_settle w_Term_settle ({ frames := 2, cells := 0, slots := 0, locals := 44 } : Room) (va_Pc [.ref (ad 0)] (lm_pre (dC, dI) classes [(cA, .int)] (tm_W cA ad S) sz (tm_E tp (va_A (tm_W cA ad S) sz)))) (va_Qi (fun (r : Int32) (u : ZTS) => r = (tm_settle S).1 ∧ u = (tm_settle S).2) (fun u => lm_at (dC, dI) classes [(cA, .int)] (va_A (tm_W cA ad S) sz) (tm_W cA ad u)) (va_A (tm_W cA ad S) sz)) 0 0 (va_A (tm_W cA ad S) sz) := by
  obtain ⟨so, xs, pa, pm, bi, op, zz⟩ := S
  obtain ⟨z, hz, hzz⟩ := hz
  have hzz : zz = nI z := hzz
  subst hzz
  refine lm_met (fun A => va_Qi (fun (r : Int32) (u : ZTS) => r = (tm_settle (so, xs, pa, pm, bi, op, (nI z))).1 ∧ u = (tm_settle (so, xs, pa, pm, bi, op, (nI z))).2) (fun u => lm_at (dC, dI) classes [(cA, .int)] A (tm_W cA ad u)) A) (by decide) rfl (Nat.le_of_ble_eq_true rfl) ?_
  intro p e s m below meth c A hx hb hr hts hown hlocks hname hml hK hP hD hA hE hsz hAe hS ls hl
  replace hl : lv_has ls 3 [(0, .ref (ad 0))] := hl
  subst hsz
  rw [← hAe] at hE
  clear hAe
  have hN := hE.1
  have hZ := hE.2.1
  have hT := hE.2.2
  refine lv_iconst (v := 0) hx hb d_Term_settle_0 (by decide) ?_
  refine lv_istore_n (lv' := [(1, .int 0), (0, .ref (ad 0))]) hx hb d_Term_settle_1 rfl hl (by decide) rfl (fun ls hl => ?_)
  refine lv_iconst (v := 0) hx hb d_Term_settle_2 (by decide) ?_
  refine lv_istore_n (lv' := [(2, .int 0), (1, .int 0), (0, .ref (ad 0))]) hx hb d_Term_settle_3 rfl hl (by decide) rfl (fun ls hl => ?_)
  have loop : ∀ (fu : Nat) (i o : Nat) (Z : ZTS) (ls : Array Slot) (H : Heap) (locs : List Loc), (i + fu = z) → (tm_inv Z i o) → (tm_so Z) → (t_sz Z = nI z) → (tm_settle (so, xs, pa, pm, bi, op, (nI z)) = tm_settleN fu i o Z) → lv_has ls 3 [(2, .int (nI i)), (1, .int (nI o)), (0, .ref (ad 0))] → va_P (dC, dI) classes (tm_W cA ad Z) H → va_D A (tm_W cA ad Z) → va_S A s.heap H locs → W p l e (headSpec w_Term_settle ({ frames := 2, cells := 0, slots := 0, locals := 44 } : Room)).room s m (List.toArray [.ref (ad 0)]) below meth c H locs 0 0 (MQ below (va_Qi (fun (r : Int32) (u : ZTS) => r = (tm_settle (so, xs, pa, pm, bi, op, (nI z))).1 ∧ u = (tm_settle (so, xs, pa, pm, bi, op, (nI z))).2) (fun u => lm_at (dC, dI) classes [(cA, .int)] A (tm_W cA ad u)) A) (List.toArray [.ref (ad 0)]) s 0 0 A) (F0 m 4 ls []) := by
    intro fu
    induction fu with
    | zero => 
      intro i o Z ls H locs hk hI hso hsz hq hl hP hD hS
      refine lv_iload_n hx hb d_Term_settle_4 rfl (lv_at hl 0 rfl) ?_
      refine lv_aload_n hx hb d_Term_settle_5 rfl (lv_at hl 2 rfl) ?_
      refine va_get (D := (dC, dI)) (ci := 3) (v := .int Z.2.2.2.2.2.2) (C := R_Term) (T := F_Term) (N := 7) hx hb hts (fun q hq => List.mem_cons_of_mem _ (i_Term q hq)) hown hK hP 0 rfl rfl 6 (by decide) (hts _ (List.mem_cons_of_mem _ m_2_6)) (fun _ h9 => h9) rfl d_Term_settle_6 ?_
      refine lv_icmp_ge hx hb d_Term_settle_9 rfl (fun h9 => ?_) (fun h9 => by exact absurd (by rw [show Z.2.2.2.2.2.2 = nI z from hsz]; exact nI_le (by omega) (by omega)) h9)
      refine lv_aload_n hx hb d_Term_settle_118 rfl (lv_at hl 2 rfl) ?_
      refine va_get (D := (dC, dI)) (ci := 3) (v := .int Z.2.2.2.2.2.2) (C := R_Term) (T := F_Term) (N := 7) hx hb hts (fun q hq => List.mem_cons_of_mem _ (i_Term q hq)) hown hK hP 0 rfl rfl 6 (by decide) (hts _ (List.mem_cons_of_mem _ m_2_6)) (fun _ h9 => h9) rfl d_Term_settle_119 ?_
      refine lv_if_eq hx hb d_Term_settle_122 rfl (fun h122 => ?_) (fun h122 => ?_)
      · refine lv_iconst (v := 1) hx hb d_Term_settle_129 (by decide) ?_
        refine lv_aload_n hx hb d_Term_settle_130 rfl (lv_at hl 2 rfl) ?_
        refine va_get (D := (dC, dI)) (ci := 3) (v := .int Z.2.2.2.2.2.2) (C := R_Term) (T := F_Term) (N := 7) hx hb hts (fun q hq => List.mem_cons_of_mem _ (i_Term q hq)) hown hK hP 0 rfl rfl 6 (by decide) (hts _ (List.mem_cons_of_mem _ m_2_6)) (fun _ h9 => h9) rfl d_Term_settle_131 ?_
        refine lv_iadd hx hb d_Term_settle_134 ?_
        refine lv_goto hx hb d_Term_settle_135 rfl ?_
        refine lm_ri (v := (1 + Z.2.2.2.2.2.2)) hx hb hr hlocks Z ?_ hP hK hD hS d_Term_settle_139
        rw [hq, tm_settleN]; first | (rw [if_pos h122]; exact ⟨rfl, rfl⟩) | (rw [if_neg h122, if_pos (tm_o0 h126 (by have := hI.1; omega))]; exact ⟨rfl, rfl⟩) | (rw [if_neg h122, if_neg (fun q => h126 (by rw [q]; decide))]; exact ⟨rfl, rfl⟩)
      · refine lv_iload_n hx hb d_Term_settle_125 rfl (lv_at hl 1 rfl) ?_
        refine lv_if_le hx hb d_Term_settle_126 rfl (fun h126 => ?_) (fun h126 => ?_)
        · refine lv_iconst (v := 0) hx hb d_Term_settle_138 (by decide) ?_
          refine lm_ri (v := 0) hx hb hr hlocks Z ?_ hP hK hD hS d_Term_settle_139
          rw [hq, tm_settleN]; first | (rw [if_pos h122]; exact ⟨rfl, rfl⟩) | (rw [if_neg h122, if_pos (tm_o0 h126 (by have := hI.1; omega))]; exact ⟨rfl, rfl⟩) | (rw [if_neg h122, if_neg (fun q => h126 (by rw [q]; decide))]; exact ⟨rfl, rfl⟩)
        · refine lv_iconst (v := 1) hx hb d_Term_settle_129 (by decide) ?_
          refine lv_aload_n hx hb d_Term_settle_130 rfl (lv_at hl 2 rfl) ?_
          refine va_get (D := (dC, dI)) (ci := 3) (v := .int Z.2.2.2.2.2.2) (C := R_Term) (T := F_Term) (N := 7) hx hb hts (fun q hq => List.mem_cons_of_mem _ (i_Term q hq)) hown hK hP 0 rfl rfl 6 (by decide) (hts _ (List.mem_cons_of_mem _ m_2_6)) (fun _ h9 => h9) rfl d_Term_settle_131 ?_
          refine lv_iadd hx hb d_Term_settle_134 ?_
          refine lv_goto hx hb d_Term_settle_135 rfl ?_
          refine lm_ri (v := (1 + Z.2.2.2.2.2.2)) hx hb hr hlocks Z ?_ hP hK hD hS d_Term_settle_139
          rw [hq, tm_settleN]; first | (rw [if_pos h122]; exact ⟨rfl, rfl⟩) | (rw [if_neg h122, if_pos (tm_o0 h126 (by have := hI.1; omega))]; exact ⟨rfl, rfl⟩) | (rw [if_neg h122, if_neg (fun q => h126 (by rw [q]; decide))]; exact ⟨rfl, rfl⟩)
    | succ fu ih => 
      intro i o Z ls H locs hk hI hso hsz hq hl hP hD hS
      refine lv_iload_n hx hb d_Term_settle_4 rfl (lv_at hl 0 rfl) ?_
      refine lv_aload_n hx hb d_Term_settle_5 rfl (lv_at hl 2 rfl) ?_
      refine va_get (D := (dC, dI)) (ci := 3) (v := .int Z.2.2.2.2.2.2) (C := R_Term) (T := F_Term) (N := 7) hx hb hts (fun q hq => List.mem_cons_of_mem _ (i_Term q hq)) hown hK hP 0 rfl rfl 6 (by decide) (hts _ (List.mem_cons_of_mem _ m_2_6)) (fun _ h9 => h9) rfl d_Term_settle_6 ?_
      refine lv_icmp_ge hx hb d_Term_settle_9 rfl (fun h9 => by exact absurd h9 (by rw [show Z.2.2.2.2.2.2 = nI z from hsz]; exact nI_ge (by omega) (by omega))) (fun h9 => ?_)
      have cut112 : ∀ (o : Nat) (Z : ZTS) (ls : Array Slot) (H : Heap) (locs : List Loc), (tm_inv Z (i + 1) o) → (tm_so Z) → (t_sz Z = nI z) → (tm_settle (so, xs, pa, pm, bi, op, (nI z)) = tm_settleN fu (i + 1) o Z) → lv_has ls 3 [(2, .int (nI i)), (1, .int (nI o)), (0, .ref (ad 0))] → va_P (dC, dI) classes (tm_W cA ad Z) H → va_D A (tm_W cA ad Z) → va_S A s.heap H locs → W p l e (headSpec w_Term_settle ({ frames := 2, cells := 0, slots := 0, locals := 44 } : Room)).room s m (List.toArray [.ref (ad 0)]) below meth c H locs 0 0 (MQ below (va_Qi (fun (r : Int32) (u : ZTS) => r = (tm_settle (so, xs, pa, pm, bi, op, (nI z))).1 ∧ u = (tm_settle (so, xs, pa, pm, bi, op, (nI z))).2) (fun u => lm_at (dC, dI) classes [(cA, .int)] A (tm_W cA ad u)) A) (List.toArray [.ref (ad 0)]) s 0 0 A) (F0 m 112 ls []) := by
        intro o Z ls H locs hI hso hsz hq hl hP hD hS
        refine lv_iinc (k := 0) (v := (nI (i + 1))) (lv' := [(2, .int (nI (i + 1))), (1, .int (nI o)), (0, .ref (ad 0))]) hx hb d_Term_settle_112 hl rfl ((nI_succ i).symm) (by decide) rfl (fun ls hl => ?_)
        refine lv_goto hx hb d_Term_settle_115 rfl ?_
        exact ih (i + 1) o Z _ _ _ (by omega) (by exact hI) (by exact hso) (by exact hsz) (by exact hq) (lv_sub hl [0, 1, 2] rfl) hP hD hS
      have cut82 : ∀ (o : Nat) (Z : ZTS) (ls : Array Slot) (H : Heap) (locs : List Loc), (tm_inv Z i o) → (tm_so Z) → (t_sz Z = nI z) → (tm_settle (so, xs, pa, pm, bi, op, (nI z)) = tm_settleN fu (i + 1) (tm_s4 Z i o).1 (tm_s4 Z i o).2) → lv_has ls 3 [(2, .int (nI i)), (1, .int (nI o)), (0, .ref (ad 0))] → va_P (dC, dI) classes (tm_W cA ad Z) H → va_D A (tm_W cA ad Z) → va_S A s.heap H locs → W p l e (headSpec w_Term_settle ({ frames := 2, cells := 0, slots := 0, locals := 44 } : Room)).room s m (List.toArray [.ref (ad 0)]) below meth c H locs 0 0 (MQ below (va_Qi (fun (r : Int32) (u : ZTS) => r = (tm_settle (so, xs, pa, pm, bi, op, (nI z))).1 ∧ u = (tm_settle (so, xs, pa, pm, bi, op, (nI z))).2) (fun u => lm_at (dC, dI) classes [(cA, .int)] A (tm_W cA ad u)) A) (List.toArray [.ref (ad 0)]) s 0 0 A) (F0 m 82 ls []) := by
        intro o Z ls H locs hI hso hsz hq hl hP hD hS
        refine lv_aload_n hx hb d_Term_settle_82 rfl (lv_at hl 2 rfl) ?_
        refine va_get (D := (dC, dI)) (ci := 3) (v := .ref (ad 4)) (C := R_Term) (T := F_Term) (N := 7) hx hb hts (fun q hq => List.mem_cons_of_mem _ (i_Term q hq)) hown hK hP 0 rfl rfl 3 (by decide) (hts _ (List.mem_cons_of_mem _ m_2_3)) (fun _ h9 => h9) rfl d_Term_settle_83 ?_
        refine lv_iload_n hx hb d_Term_settle_86 rfl (lv_at hl 0 rfl) ?_
        refine lv_iconst (v := 0) hx hb d_Term_settle_87 (by decide) ?_
        have hin : vp_in (nI i) 200 := by first | assumption | exact vp_in_nI (by omega) (by decide)
        refine va_iast (f := Z.2.2.2.1) (n := 200) hx hb hK hP hD hS 4 0 rfl rfl hin d_Term_settle_88 (fun H locs hP hD hS => ?_)
        rw [nI_clamp (show i < 2 ^ 31 by omega)] at hP hD
        have hP : va_P (dC, dI) classes (tm_W cA ad (Z.1, Z.2.1, Z.2.2.1, (upd Z.2.2.2.1 i 0), Z.2.2.2.2.1, Z.2.2.2.2.2.1, Z.2.2.2.2.2.2)) H := hP
        have hD : va_D A (tm_W cA ad (Z.1, Z.2.1, Z.2.2.1, (upd Z.2.2.2.1 i 0), Z.2.2.2.2.1, Z.2.2.2.2.2.1, Z.2.2.2.2.2.2)) := hD
        refine va_getsN hx hb hZ hS hown (va_Nw.use rfl hN) (fun _ h9 => h9) d_Term_settle_89 ?_
        refine lv_aload_n hx hb d_Term_settle_92 rfl (lv_at hl 2 rfl) ?_
        refine va_get (D := (dC, dI)) (ci := 3) (v := .ref (ad 1)) (C := R_Term) (T := F_Term) (N := 7) hx hb hts (fun q hq => List.mem_cons_of_mem _ (i_Term q hq)) hown hK hP 0 rfl rfl 0 (by decide) (hts _ (List.mem_cons_of_mem _ m_2_0)) (fun _ h9 => h9) rfl d_Term_settle_93 ?_
        refine lv_iload_n hx hb d_Term_settle_96 rfl (lv_at hl 0 rfl) ?_
        have hin : vp_in (nI i) 200 := by first | assumption | exact vp_in_nI (by omega) (by decide)
        refine va_iald (f := Z.1) (n := 200) hx hb hK hP 1 0 rfl rfl hin d_Term_settle_97 ?_
        rw [nI_clamp (show i < 2 ^ 31 by omega)]
        refine va_ti (v := .int (tm_pt (Z.1 i).toNatClampNeg)) hx hb hT hS (by exact hso i (by omega)) rfl d_Term_settle_98 ?_
        refine lv_if_le hx hb d_Term_settle_99 rfl (fun h99 => ?_) (fun h99 => ?_)
        · exact cut112 o (tm_setpm Z i 0) _ _ _ (by exact tm_inv_pm hI 0) (by exact hso) (by exact hsz) (by rw [hq, tm_s4, if_pos h99]) (lv_sub hl [0, 1, 2] rfl) hP hD hS
        · refine lv_aload_n hx hb d_Term_settle_102 rfl (lv_at hl 2 rfl) ?_
          refine va_get (D := (dC, dI)) (ci := 3) (v := .ref (ad 6)) (C := R_Term) (T := F_Term) (N := 7) hx hb hts (fun q hq => List.mem_cons_of_mem _ (i_Term q hq)) hown hK hP 0 rfl rfl 5 (by decide) (hts _ (List.mem_cons_of_mem _ m_2_5)) (fun _ h9 => h9) rfl d_Term_settle_103 ?_
          refine lv_iload_n hx hb d_Term_settle_106 rfl (lv_at hl 1 rfl) ?_
          refine lv_iload_n hx hb d_Term_settle_107 rfl (lv_at hl 0 rfl) ?_
          have hoi := hI.1
          have hin : vp_in (nI o) 200 := by first | assumption | exact vp_in_nI (by omega) (by decide)
          refine va_iast (f := Z.2.2.2.2.2.1) (n := 200) hx hb hK hP hD hS 6 0 rfl rfl hin d_Term_settle_108 (fun H locs hP hD hS => ?_)
          rw [nI_clamp (show o < 2 ^ 31 by omega)] at hP hD
          have hP : va_P (dC, dI) classes (tm_W cA ad (Z.1, Z.2.1, Z.2.2.1, (upd Z.2.2.2.1 i 0), Z.2.2.2.2.1, (upd Z.2.2.2.2.2.1 o (nI i)), Z.2.2.2.2.2.2)) H := hP
          have hD : va_D A (tm_W cA ad (Z.1, Z.2.1, Z.2.2.1, (upd Z.2.2.2.1 i 0), Z.2.2.2.2.1, (upd Z.2.2.2.2.2.1 o (nI i)), Z.2.2.2.2.2.2)) := hD
          refine lv_iinc (k := 1) (v := (nI (o + 1))) (lv' := [(1, .int (nI (o + 1))), (2, .int (nI i)), (0, .ref (ad 0))]) hx hb d_Term_settle_109 hl rfl ((nI_succ o).symm) (by decide) rfl (fun ls hl => ?_)
          exact cut112 (o + 1) (tm_setop (tm_setpm Z i 0) o (nI i)) _ _ _ (by exact tm_inv_op hI h99) (by exact hso) (by exact hsz) (by rw [hq, tm_s4, if_neg h99]) (lv_sub hl [1, 0, 2] rfl) hP hD hS
      have cut54 : ∀ (o : Nat) (Z : ZTS) (ls : Array Slot) (H : Heap) (locs : List Loc), (tm_inv Z i o) → (tm_so Z) → (t_sz Z = nI z) → (tm_settle (so, xs, pa, pm, bi, op, (nI z)) = (if t_so Z i = 0 ∧ t_bi Z i ≤ t_xs Z i then (1 + nI i, Z) else tm_settleN fu (i + 1) (tm_s4 Z i o).1 (tm_s4 Z i o).2)) → lv_has ls 3 [(2, .int (nI i)), (1, .int (nI o)), (0, .ref (ad 0))] → va_P (dC, dI) classes (tm_W cA ad Z) H → va_D A (tm_W cA ad Z) → va_S A s.heap H locs → W p l e (headSpec w_Term_settle ({ frames := 2, cells := 0, slots := 0, locals := 44 } : Room)).room s m (List.toArray [.ref (ad 0)]) below meth c H locs 0 0 (MQ below (va_Qi (fun (r : Int32) (u : ZTS) => r = (tm_settle (so, xs, pa, pm, bi, op, (nI z))).1 ∧ u = (tm_settle (so, xs, pa, pm, bi, op, (nI z))).2) (fun u => lm_at (dC, dI) classes [(cA, .int)] A (tm_W cA ad u)) A) (List.toArray [.ref (ad 0)]) s 0 0 A) (F0 m 54 ls []) := by
        intro o Z ls H locs hI hso hsz hq hl hP hD hS
        refine lv_aload_n hx hb d_Term_settle_54 rfl (lv_at hl 2 rfl) ?_
        refine va_get (D := (dC, dI)) (ci := 3) (v := .ref (ad 1)) (C := R_Term) (T := F_Term) (N := 7) hx hb hts (fun q hq => List.mem_cons_of_mem _ (i_Term q hq)) hown hK hP 0 rfl rfl 0 (by decide) (hts _ (List.mem_cons_of_mem _ m_2_0)) (fun _ h9 => h9) rfl d_Term_settle_55 ?_
        refine lv_iload_n hx hb d_Term_settle_58 rfl (lv_at hl 0 rfl) ?_
        have hin : vp_in (nI i) 200 := by first | assumption | exact vp_in_nI (by omega) (by decide)
        refine va_iald (f := Z.1) (n := 200) hx hb hK hP 1 0 rfl rfl hin d_Term_settle_59 ?_
        rw [nI_clamp (show i < 2 ^ 31 by omega)]
        refine lv_if_ne hx hb d_Term_settle_60 rfl (fun h60 => ?_) (fun h60 => ?_)
        · exact cut82 o Z _ _ _ (by exact hI) (by exact hso) (by exact hsz) (by rw [hq, if_neg (fun q => h60 q.1)]) (lv_sub hl [0, 1, 2] rfl) hP hD hS
        · refine lv_aload_n hx hb d_Term_settle_63 rfl (lv_at hl 2 rfl) ?_
          refine va_get (D := (dC, dI)) (ci := 3) (v := .ref (ad 2)) (C := R_Term) (T := F_Term) (N := 7) hx hb hts (fun q hq => List.mem_cons_of_mem _ (i_Term q hq)) hown hK hP 0 rfl rfl 1 (by decide) (hts _ (List.mem_cons_of_mem _ m_2_1)) (fun _ h9 => h9) rfl d_Term_settle_64 ?_
          refine lv_iload_n hx hb d_Term_settle_67 rfl (lv_at hl 0 rfl) ?_
          have hin : vp_in (nI i) 200 := by first | assumption | exact vp_in_nI (by omega) (by decide)
          refine va_iald (f := Z.2.1) (n := 200) hx hb hK hP 2 0 rfl rfl hin d_Term_settle_68 ?_
          rw [nI_clamp (show i < 2 ^ 31 by omega)]
          refine lv_aload_n hx hb d_Term_settle_69 rfl (lv_at hl 2 rfl) ?_
          refine va_get (D := (dC, dI)) (ci := 3) (v := .ref (ad 5)) (C := R_Term) (T := F_Term) (N := 7) hx hb hts (fun q hq => List.mem_cons_of_mem _ (i_Term q hq)) hown hK hP 0 rfl rfl 4 (by decide) (hts _ (List.mem_cons_of_mem _ m_2_4)) (fun _ h9 => h9) rfl d_Term_settle_70 ?_
          refine lv_iload_n hx hb d_Term_settle_73 rfl (lv_at hl 0 rfl) ?_
          have hin : vp_in (nI i) 200 := by first | assumption | exact vp_in_nI (by omega) (by decide)
          refine va_iald (f := Z.2.2.2.2.1) (n := 200) hx hb hK hP 5 0 rfl rfl hin d_Term_settle_74 ?_
          rw [nI_clamp (show i < 2 ^ 31 by omega)]
          refine lv_icmp_lt hx hb d_Term_settle_75 rfl (fun h75 => ?_) (fun h75 => ?_)
          · exact cut82 o Z _ _ _ (by exact hI) (by exact hso) (by exact hsz) (by rw [hq, if_neg (fun q => (by have h1 := q.2; have h2 : t_xs Z i < t_bi Z i := h75; rw [Int32.le_iff_toInt_le] at h1; rw [Int32.lt_iff_toInt_lt] at h2; omega))]) (lv_sub hl [0, 1, 2] rfl) hP hD hS
          · refine lv_iconst (v := 1) hx hb d_Term_settle_78 (by decide) ?_
            refine lv_iload_n hx hb d_Term_settle_79 rfl (lv_at hl 0 rfl) ?_
            refine lv_iadd hx hb d_Term_settle_80 ?_
            refine lm_ri (v := (1 + (nI i))) hx hb hr hlocks Z ?_ hP hK hD hS d_Term_settle_81
            rw [hq, if_pos ⟨h60, by have h2 : ¬ t_xs Z i < t_bi Z i := h75; rw [Int32.lt_iff_toInt_lt] at h2; rw [Int32.le_iff_toInt_le]; omega⟩]; exact ⟨rfl, rfl⟩
      have cut24 : ∀ (o : Nat) (Z : ZTS) (ls : Array Slot) (H : Heap) (locs : List Loc), (tm_inv Z i o) → (tm_so Z) → (t_sz Z = nI z) → (tm_settle (so, xs, pa, pm, bi, op, (nI z)) = (if t_so (tm_s2 Z i o).2 i = 0 ∧ t_bi (tm_s2 Z i o).2 i ≤ t_xs (tm_s2 Z i o).2 i then (1 + nI i, (tm_s2 Z i o).2) else tm_settleN fu (i + 1) (tm_s4 (tm_s2 Z i o).2 i (tm_s2 Z i o).1).1 (tm_s4 (tm_s2 Z i o).2 i (tm_s2 Z i o).1).2)) → lv_has ls 3 [(2, .int (nI i)), (1, .int (nI o)), (0, .ref (ad 0))] → va_P (dC, dI) classes (tm_W cA ad Z) H → va_D A (tm_W cA ad Z) → va_S A s.heap H locs → W p l e (headSpec w_Term_settle ({ frames := 2, cells := 0, slots := 0, locals := 44 } : Room)).room s m (List.toArray [.ref (ad 0)]) below meth c H locs 0 0 (MQ below (va_Qi (fun (r : Int32) (u : ZTS) => r = (tm_settle (so, xs, pa, pm, bi, op, (nI z))).1 ∧ u = (tm_settle (so, xs, pa, pm, bi, op, (nI z))).2) (fun u => lm_at (dC, dI) classes [(cA, .int)] A (tm_W cA ad u)) A) (List.toArray [.ref (ad 0)]) s 0 0 A) (F0 m 24 ls []) := by
        intro o Z ls H locs hI hso hsz hq hl hP hD hS
        refine lv_aload_n hx hb d_Term_settle_24 rfl (lv_at hl 2 rfl) ?_
        refine va_get (D := (dC, dI)) (ci := 3) (v := .ref (ad 5)) (C := R_Term) (T := F_Term) (N := 7) hx hb hts (fun q hq => List.mem_cons_of_mem _ (i_Term q hq)) hown hK hP 0 rfl rfl 4 (by decide) (hts _ (List.mem_cons_of_mem _ m_2_4)) (fun _ h9 => h9) rfl d_Term_settle_25 ?_
        refine lv_iload_n hx hb d_Term_settle_28 rfl (lv_at hl 0 rfl) ?_
        refine lv_iconst (v := 0) hx hb d_Term_settle_29 (by decide) ?_
        have hin : vp_in (nI i) 200 := by first | assumption | exact vp_in_nI (by omega) (by decide)
        refine va_iast (f := Z.2.2.2.2.1) (n := 200) hx hb hK hP hD hS 5 0 rfl rfl hin d_Term_settle_30 (fun H locs hP hD hS => ?_)
        rw [nI_clamp (show i < 2 ^ 31 by omega)] at hP hD
        have hP : va_P (dC, dI) classes (tm_W cA ad (Z.1, Z.2.1, Z.2.2.1, Z.2.2.2.1, (upd Z.2.2.2.2.1 i 0), Z.2.2.2.2.2.1, Z.2.2.2.2.2.2)) H := hP
        have hD : va_D A (tm_W cA ad (Z.1, Z.2.1, Z.2.2.1, Z.2.2.2.1, (upd Z.2.2.2.2.1 i 0), Z.2.2.2.2.2.1, Z.2.2.2.2.2.2)) := hD
        refine lv_iload_n hx hb d_Term_settle_31 rfl (lv_at hl 1 rfl) ?_
        refine lv_if_le hx hb d_Term_settle_32 rfl (fun h32 => ?_) (fun h32 => ?_)
        · exact cut54 o (tm_setbi Z i 0) _ _ _ (by exact hI) (by exact hso) (by exact hsz) (by rw [hq, tm_s2, if_pos (tm_o0 h32 (by have := hI.1; omega))]) (lv_sub hl [0, 1, 2] rfl) hP hD hS
        · obtain ⟨o, rfl⟩ : ∃ k, o = k + 1 := by
            rcases o with _ | k
            · exact absurd (Int32.le_refl _) h32
            · exact ⟨k, rfl⟩
          have hoi := hI.1
          refine lv_aload_n hx hb d_Term_settle_35 rfl (lv_at hl 2 rfl) ?_
          refine lv_aload_n hx hb d_Term_settle_36 rfl (lv_at hl 2 rfl) ?_
          refine va_get (D := (dC, dI)) (ci := 3) (v := .ref (ad 6)) (C := R_Term) (T := F_Term) (N := 7) hx hb hts (fun q hq => List.mem_cons_of_mem _ (i_Term q hq)) hown hK hP 0 rfl rfl 5 (by decide) (hts _ (List.mem_cons_of_mem _ m_2_5)) (fun _ h9 => h9) rfl d_Term_settle_37 ?_
          refine lv_iload_n hx hb d_Term_settle_40 rfl (lv_at hl 1 rfl) ?_
          refine lv_iconst (v := 1) hx hb d_Term_settle_41 (by decide) ?_
          refine lv_isub hx hb d_Term_settle_42 ?_
          refine lv_topi (fun z_ e_ => ?_)
          have e_ : z_ = nI o := e_.trans (nI_pred o)
          subst e_
          have hin : vp_in (nI o) 200 := by first | assumption | exact vp_in_nI (by omega) (by decide)
          refine va_iald (f := Z.2.2.2.2.2.1) (n := 200) hx hb hK hP 6 0 rfl rfl hin d_Term_settle_43 ?_
          rw [nI_clamp (show o < 2 ^ 31 by omega)]
          refine lv_iload_n hx hb d_Term_settle_44 rfl (lv_at hl 0 rfl) ?_
          refine lm_vi (b := ad 0) (As := [.int (Z.2.2.2.2.2.1 o), .int (nI i)]) (rest := []) (wr := ([] : va_W)) ⟨hx, hb, hml, hown, hts⟩ hK hP hD hS hA [0, 1, 2, 3, 4, 5, 6] [] rfl rfl (by decide) (by decide) (by decide) (c_Term_givePart l dC dI cA tp ad _ (Z.1, Z.2.1, Z.2.2.1, Z.2.2.2.1, (upd Z.2.2.2.2.1 i 0), Z.2.2.2.2.2.1, Z.2.2.2.2.2.2) (Z.2.2.2.2.2.1 o) (nI i) (by obtain ⟨q, h2, _⟩ := hI.2; rw [show Z.2.2.2.2.2.1 o = nI (q o) from (h2 o (by omega)).1]; exact vp_in_nI (by have := (h2 o (by omega)).2.1; omega) (by decide)) (by exact vp_in_nI (by omega) (by decide)) (by exact tm_inv_ix hI (by omega)) (by exact hso _ (tm_inv_lt hI (by omega)))) (cwV 2 hts (lm_gV m_3_4 m_3_5 m_19_4 m_0_4 m_3_6) rfl rfl rfl (by decide +kernel) ⟨Nat.le_of_ble_eq_true rfl, Nat.le_of_ble_eq_true rfl⟩) (va_recv (q0 := 0) hK hP rfl rfl) tm_E_bl (tm_E_use hE hS (va_free (wc := tm_W cA ad (Z.1, Z.2.1, Z.2.2.1, Z.2.2.2.1, (upd Z.2.2.2.2.1 i 0), Z.2.2.2.2.2.1, Z.2.2.2.2.2.2)) hD hS hA [0, 1, 2, 3, 4, 5, 6] rfl)) hl.1 rfl rfl (Nat.le_of_ble_eq_true rfl) d_Term_settle_45 ⟨Nat.le_of_ble_eq_true rfl, Nat.le_of_ble_eq_true rfl⟩ (fun r45 u45 H locs w45 hP hD hS => ?_)
          obtain ⟨e_r45, w45⟩ := w45
          have hP : va_P (dC, dI) classes (tm_W cA ad u45) H := hP
          have hD : va_D A (tm_W cA ad u45) := hD
          have g1 : r45 = (tm_give (tm_setbi Z i 0) (t_op Z o) (nI i)).1 := e_r45
          have g2 : u45 = (tm_give (tm_setbi Z i 0) (t_op Z o) (nI i)).2 := w45
          refine lv_if_eq hx hb d_Term_settle_48 rfl (fun h48 => ?_) (fun h48 => ?_)
          · exact cut54 (o + 1) u45 _ _ _ (by rw [g2]; exact (tm_inv_give hI (by omega)).2 (by rw [← g1]; exact h48)) (by rw [g2]; exact hso) (by rw [g2]; exact hsz) (by rw [hq, tm_s2_0 (by rw [← g1]; exact h48), g2]) (lv_sub hl [0, 1, 2] rfl) hP hD hS
          · refine lv_iinc (k := 1) (v := (nI o)) (lv' := [(1, .int (nI o)), (2, .int (nI i)), (0, .ref (ad 0))]) hx hb d_Term_settle_51 hl rfl (pk_m1 o) (by decide) rfl (fun ls hl => ?_)
            exact cut54 o u45 _ _ _ (by rw [g2]; exact (tm_inv_give hI (by omega)).1 (by rw [← g1]; exact h48)) (by rw [g2]; exact hso) (by rw [g2]; exact hsz) (by rw [hq, tm_s2_1 (by rw [← g1]; exact h48), g2]) (lv_sub hl [1, 0, 2] rfl) hP hD hS
      refine lv_iload_n hx hb d_Term_settle_12 rfl (lv_at hl 0 rfl) ?_
      refine lv_if_le hx hb d_Term_settle_13 rfl (fun h13 => ?_) (fun h13 => ?_)
      · exact cut24 o Z _ _ _ (by exact hI) (by exact hso) (by exact hsz) (by rw [hq, tm_settleN, if_neg (fun q => q.1 (tm_o0 h13 (by omega)))]) (lv_sub hl [0, 1, 2] rfl) hP hD hS
      · refine lv_iload_n hx hb d_Term_settle_16 rfl (lv_at hl 1 rfl) ?_
        refine lv_if_ne hx hb d_Term_settle_17 rfl (fun h17 => ?_) (fun h17 => ?_)
        · exact cut24 o Z _ _ _ (by exact hI) (by exact hso) (by exact hsz) (by rw [hq, tm_settleN, if_neg (fun q => h17 (by rw [q.2]; rfl))]) (lv_sub hl [0, 1, 2] rfl) hP hD hS
        · refine lv_iconst (v := 1) hx hb d_Term_settle_20 (by decide) ?_
          refine lv_iload_n hx hb d_Term_settle_21 rfl (lv_at hl 0 rfl) ?_
          refine lv_iadd hx hb d_Term_settle_22 ?_
          refine lm_ri (v := (1 + (nI i))) hx hb hr hlocks Z ?_ hP hK hD hS d_Term_settle_23
          rw [hq, tm_settleN, if_pos ⟨fun q => h13 (by rw [q]; decide), tm_oz h17 (by have := hI.1; omega)⟩]; exact ⟨rfl, rfl⟩
  exact loop z 0 0 (so, xs, pa, pm, bi, op, (nI z)) _ _ _ (by omega) (by exact ⟨by omega, fun _ => 0, fun j hj => by omega, fun j k _ hk => by omega⟩) (by exact hso) (by rfl) (by unfold tm_settle; rw [show (t_sz (so, xs, pa, pm, bi, op, (nI z))).toNatClampNeg = z from nI_clamp (by omega)]) hl hP hD hS
end
section
theorem d_LazyMachine_enter_0 : decode b_LazyMachine_enter 0 = .ok (.aload_n 0, 1) := by decide +kernel
theorem d_LazyMachine_enter_1 : decode b_LazyMachine_enter 1 = .ok (.iconst 0, 1) := by decide +kernel
theorem d_LazyMachine_enter_2 : decode b_LazyMachine_enter 2 = .ok (.putfield 83, 3) := by decide +kernel
theorem d_LazyMachine_enter_5 : decode b_LazyMachine_enter 5 = .ok (.aload_n 0, 1) := by decide +kernel
theorem d_LazyMachine_enter_6 : decode b_LazyMachine_enter 6 = .ok (.iload_n 1, 1) := by decide +kernel
theorem d_LazyMachine_enter_7 : decode b_LazyMachine_enter 7 = .ok (.putfield 132, 3) := by decide +kernel
theorem d_LazyMachine_enter_10 : decode b_LazyMachine_enter 10 = .ok (.aload_n 0, 1) := by decide +kernel
theorem d_LazyMachine_enter_11 : decode b_LazyMachine_enter 11 = .ok (.iload_n 2, 1) := by decide +kernel
theorem d_LazyMachine_enter_12 : decode b_LazyMachine_enter 12 = .ok (.putfield 37, 3) := by decide +kernel
theorem d_LazyMachine_enter_15 : decode b_LazyMachine_enter 15 = .ok (.return_, 1) := by decide +kernel
theorem d_LazyMachine_backWith_0 : decode b_LazyMachine_backWith 0 = .ok (.aload_n 0, 1) := by decide +kernel
theorem d_LazyMachine_backWith_1 : decode b_LazyMachine_backWith 1 = .ok (.iconst 1, 1) := by decide +kernel
theorem d_LazyMachine_backWith_2 : decode b_LazyMachine_backWith 2 = .ok (.putfield 83, 3) := by decide +kernel
theorem d_LazyMachine_backWith_5 : decode b_LazyMachine_backWith 5 = .ok (.aload_n 0, 1) := by decide +kernel
theorem d_LazyMachine_backWith_6 : decode b_LazyMachine_backWith 6 = .ok (.iload_n 1, 1) := by decide +kernel
theorem d_LazyMachine_backWith_7 : decode b_LazyMachine_backWith 7 = .ok (.putfield 98, 3) := by decide +kernel
theorem d_LazyMachine_backWith_10 : decode b_LazyMachine_backWith 10 = .ok (.aload_n 0, 1) := by decide +kernel
theorem d_LazyMachine_backWith_11 : decode b_LazyMachine_backWith 11 = .ok (.iload_n 2, 1) := by decide +kernel
theorem d_LazyMachine_backWith_12 : decode b_LazyMachine_backWith 12 = .ok (.putfield 40, 3) := by decide +kernel
theorem d_LazyMachine_backWith_15 : decode b_LazyMachine_backWith 15 = .ok (.aload_n 0, 1) := by decide +kernel
theorem d_LazyMachine_backWith_16 : decode b_LazyMachine_backWith 16 = .ok (.iload_n 3, 1) := by decide +kernel
theorem d_LazyMachine_backWith_17 : decode b_LazyMachine_backWith 17 = .ok (.putfield 43, 3) := by decide +kernel
theorem d_LazyMachine_backWith_20 : decode b_LazyMachine_backWith 20 = .ok (.iconst 1, 1) := by decide +kernel
theorem d_LazyMachine_backWith_21 : decode b_LazyMachine_backWith 21 = .ok (.ireturn, 1) := by decide +kernel
theorem d_LazyMachine_begin_0 : decode b_LazyMachine_begin 0 = .ok (.aload_n 0, 1) := by decide +kernel
theorem d_LazyMachine_begin_1 : decode b_LazyMachine_begin 1 = .ok (.getfield 10, 3) := by decide +kernel
theorem d_LazyMachine_begin_4 : decode b_LazyMachine_begin 4 = .ok (.invokevirtual 138, 3) := by decide +kernel
theorem d_LazyMachine_begin_7 : decode b_LazyMachine_begin 7 = .ok (.aload_n 0, 1) := by decide +kernel
theorem d_LazyMachine_begin_8 : decode b_LazyMachine_begin 8 = .ok (.getfield 19, 3) := by decide +kernel
theorem d_LazyMachine_begin_11 : decode b_LazyMachine_begin 11 = .ok (.invokevirtual 141, 3) := by decide +kernel
theorem d_LazyMachine_begin_14 : decode b_LazyMachine_begin 14 = .ok (.aload_n 0, 1) := by decide +kernel
theorem d_LazyMachine_begin_15 : decode b_LazyMachine_begin 15 = .ok (.iconst 0, 1) := by decide +kernel
theorem d_LazyMachine_begin_16 : decode b_LazyMachine_begin 16 = .ok (.putfield 93, 3) := by decide +kernel
theorem d_LazyMachine_begin_19 : decode b_LazyMachine_begin 19 = .ok (.aload_n 0, 1) := by decide +kernel
theorem d_LazyMachine_begin_20 : decode b_LazyMachine_begin 20 = .ok (.iconst 0, 1) := by decide +kernel
theorem d_LazyMachine_begin_21 : decode b_LazyMachine_begin 21 = .ok (.putfield 122, 3) := by decide +kernel
theorem d_LazyMachine_begin_24 : decode b_LazyMachine_begin 24 = .ok (.aload_n 0, 1) := by decide +kernel
theorem d_LazyMachine_begin_25 : decode b_LazyMachine_begin 25 = .ok (.iload_n 1, 1) := by decide +kernel
theorem d_LazyMachine_begin_26 : decode b_LazyMachine_begin 26 = .ok (.putfield 33, 3) := by decide +kernel
theorem d_LazyMachine_begin_29 : decode b_LazyMachine_begin 29 = .ok (.aload_n 0, 1) := by decide +kernel
theorem d_LazyMachine_begin_30 : decode b_LazyMachine_begin 30 = .ok (.iconst 0, 1) := by decide +kernel
theorem d_LazyMachine_begin_31 : decode b_LazyMachine_begin 31 = .ok (.iconst (-1), 1) := by decide +kernel
theorem d_LazyMachine_begin_32 : decode b_LazyMachine_begin 32 = .ok (.invokevirtual 142, 3) := by decide +kernel
theorem d_LazyMachine_begin_35 : decode b_LazyMachine_begin 35 = .ok (.return_, 1) := by decide +kernel
theorem d_LazyMachine_markRoots_0 : decode b_LazyMachine_markRoots 0 = .ok (.aload_n 0, 1) := by decide +kernel
theorem d_LazyMachine_markRoots_1 : decode b_LazyMachine_markRoots 1 = .ok (.getfield 10, 3) := by decide +kernel
theorem d_LazyMachine_markRoots_4 : decode b_LazyMachine_markRoots 4 = .ok (.invokevirtual 239, 3) := by decide +kernel
theorem d_LazyMachine_markRoots_7 : decode b_LazyMachine_markRoots 7 = .ok (.aload_n 0, 1) := by decide +kernel
theorem d_LazyMachine_markRoots_8 : decode b_LazyMachine_markRoots 8 = .ok (.getfield 83, 3) := by decide +kernel
theorem d_LazyMachine_markRoots_11 : decode b_LazyMachine_markRoots 11 = .ok (.ifCond .eq 25, 3) := by decide +kernel
theorem d_LazyMachine_markRoots_14 : decode b_LazyMachine_markRoots 14 = .ok (.aload_n 0, 1) := by decide +kernel
theorem d_LazyMachine_markRoots_15 : decode b_LazyMachine_markRoots 15 = .ok (.getfield 10, 3) := by decide +kernel
theorem d_LazyMachine_markRoots_18 : decode b_LazyMachine_markRoots 18 = .ok (.aload_n 0, 1) := by decide +kernel
theorem d_LazyMachine_markRoots_19 : decode b_LazyMachine_markRoots 19 = .ok (.getfield 98, 3) := by decide +kernel
theorem d_LazyMachine_markRoots_22 : decode b_LazyMachine_markRoots 22 = .ok (.aload_n 0, 1) := by decide +kernel
theorem d_LazyMachine_markRoots_23 : decode b_LazyMachine_markRoots 23 = .ok (.getfield 40, 3) := by decide +kernel
theorem d_LazyMachine_markRoots_26 : decode b_LazyMachine_markRoots 26 = .ok (.aload_n 0, 1) := by decide +kernel
theorem d_LazyMachine_markRoots_27 : decode b_LazyMachine_markRoots 27 = .ok (.getfield 43, 3) := by decide +kernel
theorem d_LazyMachine_markRoots_30 : decode b_LazyMachine_markRoots 30 = .ok (.invokevirtual 242, 3) := by decide +kernel
theorem d_LazyMachine_markRoots_33 : decode b_LazyMachine_markRoots 33 = .ok (.goto 14, 3) := by decide +kernel
theorem d_LazyMachine_markRoots_36 : decode b_LazyMachine_markRoots 36 = .ok (.aload_n 0, 1) := by decide +kernel
theorem d_LazyMachine_markRoots_37 : decode b_LazyMachine_markRoots 37 = .ok (.getfield 10, 3) := by decide +kernel
theorem d_LazyMachine_markRoots_40 : decode b_LazyMachine_markRoots 40 = .ok (.aload_n 0, 1) := by decide +kernel
theorem d_LazyMachine_markRoots_41 : decode b_LazyMachine_markRoots 41 = .ok (.getfield 37, 3) := by decide +kernel
theorem d_LazyMachine_markRoots_44 : decode b_LazyMachine_markRoots 44 = .ok (.invokevirtual 245, 3) := by decide +kernel
theorem d_LazyMachine_markRoots_47 : decode b_LazyMachine_markRoots 47 = .ok (.aload_n 0, 1) := by decide +kernel
theorem d_LazyMachine_markRoots_48 : decode b_LazyMachine_markRoots 48 = .ok (.getfield 19, 3) := by decide +kernel
theorem d_LazyMachine_markRoots_51 : decode b_LazyMachine_markRoots 51 = .ok (.aload_n 0, 1) := by decide +kernel
theorem d_LazyMachine_markRoots_52 : decode b_LazyMachine_markRoots 52 = .ok (.getfield 10, 3) := by decide +kernel
theorem d_LazyMachine_markRoots_55 : decode b_LazyMachine_markRoots 55 = .ok (.invokevirtual 248, 3) := by decide +kernel
theorem d_LazyMachine_markRoots_58 : decode b_LazyMachine_markRoots 58 = .ok (.return_, 1) := by decide +kernel
theorem d_LazyMachine_hasRoomFor_0 : decode b_LazyMachine_hasRoomFor 0 = .ok (.aload_n 0, 1) := by decide +kernel
theorem d_LazyMachine_hasRoomFor_1 : decode b_LazyMachine_hasRoomFor 1 = .ok (.getfield 10, 3) := by decide +kernel
theorem d_LazyMachine_hasRoomFor_4 : decode b_LazyMachine_hasRoomFor 4 = .ok (.invokevirtual 233, 3) := by decide +kernel
theorem d_LazyMachine_hasRoomFor_7 : decode b_LazyMachine_hasRoomFor 7 = .ok (.iload_n 1, 1) := by decide +kernel
theorem d_LazyMachine_hasRoomFor_8 : decode b_LazyMachine_hasRoomFor 8 = .ok (.if_icmp .ge 22, 3) := by decide +kernel
theorem d_LazyMachine_hasRoomFor_11 : decode b_LazyMachine_hasRoomFor 11 = .ok (.aload_n 0, 1) := by decide +kernel
theorem d_LazyMachine_hasRoomFor_12 : decode b_LazyMachine_hasRoomFor 12 = .ok (.invokevirtual 126, 3) := by decide +kernel
theorem d_LazyMachine_hasRoomFor_15 : decode b_LazyMachine_hasRoomFor 15 = .ok (.aload_n 0, 1) := by decide +kernel
theorem d_LazyMachine_hasRoomFor_16 : decode b_LazyMachine_hasRoomFor 16 = .ok (.getfield 10, 3) := by decide +kernel
theorem d_LazyMachine_hasRoomFor_19 : decode b_LazyMachine_hasRoomFor 19 = .ok (.invokevirtual 129, 3) := by decide +kernel
theorem d_LazyMachine_hasRoomFor_22 : decode b_LazyMachine_hasRoomFor 22 = .ok (.pop, 1) := by decide +kernel
theorem d_LazyMachine_hasRoomFor_23 : decode b_LazyMachine_hasRoomFor 23 = .ok (.aload_n 0, 1) := by decide +kernel
theorem d_LazyMachine_hasRoomFor_24 : decode b_LazyMachine_hasRoomFor 24 = .ok (.getfield 10, 3) := by decide +kernel
theorem d_LazyMachine_hasRoomFor_27 : decode b_LazyMachine_hasRoomFor 27 = .ok (.invokevirtual 236, 3) := by decide +kernel
theorem d_LazyMachine_hasRoomFor_30 : decode b_LazyMachine_hasRoomFor 30 = .ok (.aload_n 0, 1) := by decide +kernel
theorem d_LazyMachine_hasRoomFor_31 : decode b_LazyMachine_hasRoomFor 31 = .ok (.getfield 10, 3) := by decide +kernel
theorem d_LazyMachine_hasRoomFor_34 : decode b_LazyMachine_hasRoomFor 34 = .ok (.invokevirtual 233, 3) := by decide +kernel
theorem d_LazyMachine_hasRoomFor_37 : decode b_LazyMachine_hasRoomFor 37 = .ok (.iload_n 1, 1) := by decide +kernel
theorem d_LazyMachine_hasRoomFor_38 : decode b_LazyMachine_hasRoomFor 38 = .ok (.if_icmp .lt 7, 3) := by decide +kernel
theorem d_LazyMachine_hasRoomFor_41 : decode b_LazyMachine_hasRoomFor 41 = .ok (.iconst 1, 1) := by decide +kernel
theorem d_LazyMachine_hasRoomFor_42 : decode b_LazyMachine_hasRoomFor 42 = .ok (.goto 4, 3) := by decide +kernel
theorem d_LazyMachine_hasRoomFor_45 : decode b_LazyMachine_hasRoomFor 45 = .ok (.iconst 0, 1) := by decide +kernel
theorem d_LazyMachine_hasRoomFor_46 : decode b_LazyMachine_hasRoomFor 46 = .ok (.ireturn, 1) := by decide +kernel
theorem d_LazyMachine_cellsFor_0 : decode b_LazyMachine_cellsFor 0 = .ok (.aload_n 0, 1) := by decide +kernel
theorem d_LazyMachine_cellsFor_1 : decode b_LazyMachine_cellsFor 1 = .ok (.getfield 30, 3) := by decide +kernel
theorem d_LazyMachine_cellsFor_4 : decode b_LazyMachine_cellsFor 4 = .ok (.iload_n 1, 1) := by decide +kernel
theorem d_LazyMachine_cellsFor_5 : decode b_LazyMachine_cellsFor 5 = .ok (.invokevirtual 146, 3) := by decide +kernel
theorem d_LazyMachine_cellsFor_8 : decode b_LazyMachine_cellsFor 8 = .ok (.ifCond .ne 7, 3) := by decide +kernel
theorem d_LazyMachine_cellsFor_11 : decode b_LazyMachine_cellsFor 11 = .ok (.iconst 0, 1) := by decide +kernel
theorem d_LazyMachine_cellsFor_12 : decode b_LazyMachine_cellsFor 12 = .ok (.goto 4, 3) := by decide +kernel
theorem d_LazyMachine_cellsFor_15 : decode b_LazyMachine_cellsFor 15 = .ok (.iconst 1, 1) := by decide +kernel
theorem d_LazyMachine_cellsFor_16 : decode b_LazyMachine_cellsFor 16 = .ok (.ireturn, 1) := by decide +kernel
theorem d_LazyMachine_thunkFor_0 : decode b_LazyMachine_thunkFor 0 = .ok (.aload_n 0, 1) := by decide +kernel
theorem d_LazyMachine_thunkFor_1 : decode b_LazyMachine_thunkFor 1 = .ok (.getfield 30, 3) := by decide +kernel
theorem d_LazyMachine_thunkFor_4 : decode b_LazyMachine_thunkFor 4 = .ok (.iload_n 1, 1) := by decide +kernel
theorem d_LazyMachine_thunkFor_5 : decode b_LazyMachine_thunkFor 5 = .ok (.invokevirtual 146, 3) := by decide +kernel
theorem d_LazyMachine_thunkFor_8 : decode b_LazyMachine_thunkFor 8 = .ok (.ifCond .ne 23, 3) := by decide +kernel
theorem d_LazyMachine_thunkFor_11 : decode b_LazyMachine_thunkFor 11 = .ok (.aload_n 0, 1) := by decide +kernel
theorem d_LazyMachine_thunkFor_12 : decode b_LazyMachine_thunkFor 12 = .ok (.getfield 10, 3) := by decide +kernel
theorem d_LazyMachine_thunkFor_15 : decode b_LazyMachine_thunkFor 15 = .ok (.aload_n 0, 1) := by decide +kernel
theorem d_LazyMachine_thunkFor_16 : decode b_LazyMachine_thunkFor 16 = .ok (.getfield 37, 3) := by decide +kernel
theorem d_LazyMachine_thunkFor_19 : decode b_LazyMachine_thunkFor 19 = .ok (.aload_n 0, 1) := by decide +kernel
theorem d_LazyMachine_thunkFor_20 : decode b_LazyMachine_thunkFor 20 = .ok (.getfield 30, 3) := by decide +kernel
theorem d_LazyMachine_thunkFor_23 : decode b_LazyMachine_thunkFor 23 = .ok (.iload_n 1, 1) := by decide +kernel
theorem d_LazyMachine_thunkFor_24 : decode b_LazyMachine_thunkFor 24 = .ok (.invokevirtual 149, 3) := by decide +kernel
theorem d_LazyMachine_thunkFor_27 : decode b_LazyMachine_thunkFor 27 = .ok (.invokevirtual 152, 3) := by decide +kernel
theorem d_LazyMachine_thunkFor_30 : decode b_LazyMachine_thunkFor 30 = .ok (.ireturn, 1) := by decide +kernel
theorem d_LazyMachine_thunkFor_31 : decode b_LazyMachine_thunkFor 31 = .ok (.aload_n 0, 1) := by decide +kernel
theorem d_LazyMachine_thunkFor_32 : decode b_LazyMachine_thunkFor 32 = .ok (.getfield 10, 3) := by decide +kernel
theorem d_LazyMachine_thunkFor_35 : decode b_LazyMachine_thunkFor 35 = .ok (.iconst 3, 1) := by decide +kernel
theorem d_LazyMachine_thunkFor_36 : decode b_LazyMachine_thunkFor 36 = .ok (.iload_n 1, 1) := by decide +kernel
theorem d_LazyMachine_thunkFor_37 : decode b_LazyMachine_thunkFor 37 = .ok (.aload_n 0, 1) := by decide +kernel
theorem d_LazyMachine_thunkFor_38 : decode b_LazyMachine_thunkFor 38 = .ok (.getfield 37, 3) := by decide +kernel
theorem d_LazyMachine_thunkFor_41 : decode b_LazyMachine_thunkFor 41 = .ok (.invokevirtual 115, 3) := by decide +kernel
theorem d_LazyMachine_thunkFor_44 : decode b_LazyMachine_thunkFor 44 = .ok (.ireturn, 1) := by decide +kernel
end
section
/-! The machine, as functions of its contents. -/
abbrev l_ss (M : ZMS) : Int32 := M.1.1
abbrev l_sp (M : ZMS) : Int32 := M.1.2.1
abbrev l_fo (M : ZMS) : Int32 := M.1.2.2.1
abbrev l_ba (M : ZMS) : Int32 := M.1.2.2.2.1
abbrev l_no (M : ZMS) : Int32 := M.1.2.2.2.2.1
abbrev l_en (M : ZMS) : Int32 := M.1.2.2.2.2.2.1
abbrev l_vs (M : ZMS) : Int32 := M.1.2.2.2.2.2.2.1
abbrev l_vf (M : ZMS) : Int32 := M.1.2.2.2.2.2.2.2.1
abbrev l_vg (M : ZMS) : Int32 := M.1.2.2.2.2.2.2.2.2
abbrev m_H (M : ZMS) : ZHS := M.2.1
abbrev m_P (M : ZMS) : ZPS := M.2.2.1
abbrev m_X (M : ZMS) : ZTS := M.2.2.2.1
abbrev m_Y (M : ZMS) : ZTS := M.2.2.2.2
def ma_setH (M : ZMS) (S : ZHS) : ZMS := (M.1, S, M.2.2)
def ma_setP (M : ZMS) (P : ZPS) : ZMS := (M.1, M.2.1, P, M.2.2.2)
def ma_enter (M : ZMS) (a b : Int32) : ZMS := ((l_ss M, l_sp M, l_fo M, 0, a, b, l_vs M, l_vf M, l_vg M), M.2)
def ma_back (M : ZMS) (a b c : Int32) : ZMS := ((l_ss M, l_sp M, l_fo M, 1, l_no M, l_en M, a, b, c), M.2)
def ma_force (M : ZMS) : ZMS := ((l_ss M, l_sp M, l_fo M + 1, l_ba M, l_no M, l_en M, l_vs M, l_vf M, l_vg M), M.2)
def ma_stat (M : ZMS) (x : Int32) : ZMS := ((x, l_sp M, l_fo M, l_ba M, l_no M, l_en M, l_vs M, l_vf M, l_vg M), M.2)
def ma_begin (M : ZMS) (x : Int32) : ZMS := ((x, 0, 0, 0, 0, -1, l_vs M, l_vf M, l_vg M), hp_sweep (hp_begin (m_H M)), pl_empty (m_P M), m_X M, m_Y M)
def ma_roots (M : ZMS) : ZHS := pl_reach (m_P M) (if l_ba M = 0 then hp_reach (hp_begin (m_H M)) (l_en M) else hp_from (hp_begin (m_H M)) (l_vs M) (l_vf M) (l_vg M))
def ma_gc (M : ZMS) : ZMS := ma_setH M (hp_sweep (hp_spread (ma_roots M)))
def ma_roomM (M : ZMS) (n : Int32) : ZMS := if n ≤ h_fr (m_H M) then M else ma_gc M
def ma_room (M : ZMS) (n : Int32) : Int32 × ZMS := (if h_fr (m_H (ma_roomM M n)) < n then 0 else 1, ma_roomM M n)
def ma_cells (M : ZMS) (p : Int32) : Int32 := if t_so (m_Y M) p.toNatClampNeg = 0 then 0 else 1
def ma_thunk (M : ZMS) (p : Int32) : Int32 × ZMS := if t_so (m_Y M) p.toNatClampNeg = 0 then (hp_bound (m_H M) (l_en M) (t_xs (m_Y M) p.toNatClampNeg), M) else ((hp_take (m_H M) 3 p (l_en M)).1, ma_setH M (hp_take (m_H M) 3 p (l_en M)).2)
def ma_under (M : ZMS) (f a b : Int32) : Int32 × ZMS := if pl_full (m_P M) = 0 then (1, ma_enter (ma_setP M (pl_add (m_P M) f a b)) (tm_part (m_Y M) (l_no M) 0) (l_en M)) else (5, M)
def ma_apply1 (M : ZMS) : Int32 × ZMS := if pl_full (m_P M) = 0 then
    if (ma_room M (ma_cells M (tm_part (m_Y M) (l_no M) 1))).1 = 0 then (6, (ma_room M (ma_cells M (tm_part (m_Y M) (l_no M) 1))).2)
    else ma_under (ma_thunk (ma_room M (ma_cells M (tm_part (m_Y M) (l_no M) 1))).2 (tm_part (m_Y M) (l_no M) 1)).2 1 (ma_thunk (ma_room M (ma_cells M (tm_part (m_Y M) (l_no M) 1))).2 (tm_part (m_Y M) (l_no M) 1)).1 (-1)
  else (5, M)
def ma_ask (M : ZMS) (t : Int32) : Int32 × ZMS := if hp_state (m_H M) t = 4 then (4, M) else
    if hp_state (m_H M) t = 3 then
      if pl_full (m_P M) = 0 then (1, ma_enter (ma_setP (ma_force (ma_setH M (hp_become (m_H M) t 4 (-1) (-1)))) (pl_add (m_P M) 0 t (-1))) (hp_first (m_H M) t) (hp_second (m_H M) t)) else (5, M)
    else (1, ma_back M (hp_state (m_H M) t) (hp_first (m_H M) t) (hp_second (m_H M) t))
def ma_link (M : ZMS) (t env : Int32) : Int32 × ZMS := ((hp_take (m_H M) 5 t env).1, ma_setH M (hp_take (m_H M) 5 t env).2)
def ma_fun (M : ZMS) (t : Int32) : ZMS := ma_enter (ma_link M t (l_vg M)).2 (tm_part (m_Y M) (l_vf M) 0) (ma_link M t (l_vg M)).1
def ma_reckon (a b c : Int32) : Int32 := if a = 4 then b + c else if a = 5 then b - c else if a = 6 then b * c else if c ≤ b then 0 else 1
def ma_fix2 (N : ZMS) : Int32 × ZMS :=
  (1, ma_enter (ma_setP (ma_force (ma_setH N (hp_take (hp_take (m_H N) 4 (-1) (-1)).2 5 (hp_take (m_H N) 4 (-1) (-1)).1 (l_en N)).2)) (pl_add (m_P N) 0 (hp_take (m_H N) 4 (-1) (-1)).1 (-1)))
    (tm_part (m_Y N) (l_no N) 0) (hp_take (hp_take (m_H N) 4 (-1) (-1)).2 5 (hp_take (m_H N) 4 (-1) (-1)).1 (l_en N)).1)
def ma_fix (M : ZMS) : Int32 × ZMS := if pl_full (m_P M) = 0 then
    if (ma_room M 2).1 = 0 then (6, (ma_room M 2).2) else ma_fix2 (ma_room M 2).2
  else (5, M)
def ma_let2 (N : ZMS) (t : Int32) : Int32 × ZMS := (1, ma_enter (ma_setH N (hp_take (m_H N) 5 t (l_en N)).2) (tm_part (m_Y N) (l_no N) 1) (hp_take (m_H N) 5 t (l_en N)).1)
def ma_let (M : ZMS) : Int32 × ZMS :=
  if (ma_room M (ma_cells M (tm_part (m_Y M) (l_no M) 0) + 1)).1 = 0 then (6, (ma_room M (ma_cells M (tm_part (m_Y M) (l_no M) 0) + 1)).2)
  else ma_let2 (ma_thunk (ma_room M (ma_cells M (tm_part (m_Y M) (l_no M) 0) + 1)).2 (tm_part (m_Y M) (l_no M) 0)).2 (ma_thunk (ma_room M (ma_cells M (tm_part (m_Y M) (l_no M) 0) + 1)).2 (tm_part (m_Y M) (l_no M) 0)).1
/-- a pair's two parts, room for both -/
def ma_pairM (M : ZMS) : ZMS := (ma_room M (ma_cells M (tm_part (m_Y M) (l_no M) 0) + ma_cells M (tm_part (m_Y M) (l_no M) 1))).2
def ma_pair (M : ZMS) : Int32 × ZMS :=
  if (ma_room M (ma_cells M (tm_part (m_Y M) (l_no M) 0) + ma_cells M (tm_part (m_Y M) (l_no M) 1))).1 = 0 then (6, ma_pairM M)
  else (1, ma_back (ma_thunk (ma_thunk (ma_pairM M) (tm_part (m_Y M) (l_no M) 0)).2 (tm_part (m_Y M) (l_no M) 1)).2 2 (ma_thunk (ma_pairM M) (tm_part (m_Y M) (l_no M) 0)).1 (ma_thunk (ma_thunk (ma_pairM M) (tm_part (m_Y M) (l_no M) 0)).2 (tm_part (m_Y M) (l_no M) 1)).1)
def ma_at (M : ZMS) : Int32 × ZMS :=
  if t_so (m_Y M) (l_no M).toNatClampNeg = 0 then ma_ask M (hp_bound (m_H M) (l_en M) (t_xs (m_Y M) (l_no M).toNatClampNeg))
  else if t_so (m_Y M) (l_no M).toNatClampNeg = 1 then (1, ma_back M 1 (l_no M) (l_en M))
  else if t_so (m_Y M) (l_no M).toNatClampNeg = 2 then ma_apply1 M
  else if t_so (m_Y M) (l_no M).toNatClampNeg = 3 then (1, ma_back M 0 (t_xs (m_Y M) (l_no M).toNatClampNeg) (-1))
  else if t_so (m_Y M) (l_no M).toNatClampNeg = 8 then ma_under M 4 (l_no M) (l_en M)
  else if t_so (m_Y M) (l_no M).toNatClampNeg = 9 then ma_fix M
  else if t_so (m_Y M) (l_no M).toNatClampNeg = 10 then ma_let M
  else if t_so (m_Y M) (l_no M).toNatClampNeg = 11 then ma_pair M
  else if t_so (m_Y M) (l_no M).toNatClampNeg = 12 then ma_under M 5 0 (-1)
  else if t_so (m_Y M) (l_no M).toNatClampNeg = 13 then ma_under M 5 1 (-1)
  else ma_under M 2 (l_no M) (l_en M)
def ma_arg (M : ZMS) (t : Int32) : Int32 × ZMS := if l_vs M = 1 then
    if (ma_room M 1).1 = 0 then (6, (ma_room M 1).2) else (1, ma_fun (ma_setP (ma_room M 1).2 (pl_drop (m_P (ma_room M 1).2))) t)
  else (3, M)
def ma_left (M : ZMS) (n e : Int32) : Int32 × ZMS := if l_vs M = 0 then (1, ma_enter (ma_setP M (pl_add (pl_drop (m_P M)) 3 n (l_vf M))) (tm_part (m_Y M) n 1) e) else (3, M)
def ma_right (M : ZMS) (n x : Int32) : Int32 × ZMS := if l_vs M = 0 then (1, ma_back (ma_setP M (pl_drop (m_P M))) 0 (ma_reckon (t_so (m_Y M) n.toNatClampNeg) x (l_vf M)) (-1)) else (3, M)
def ma_test (M : ZMS) (n e : Int32) : Int32 × ZMS := if l_vs M = 0 then (1, ma_enter (ma_setP M (pl_drop (m_P M))) (tm_part (m_Y M) n (if l_vf M = 0 then 1 else 2)) e) else (3, M)
def ma_part (M : ZMS) (w : Int32) : Int32 × ZMS := if l_vs M = 2 then
    if hp_state (m_H M) (if w = 0 then l_vf M else l_vg M) = 4 then (4, M) else ma_ask (ma_setP M (pl_drop (m_P M))) (if w = 0 then l_vf M else l_vg M)
  else (3, M)
def ma_bk (M : ZMS) : Int32 × ZMS :=
  if pl_topSort (m_P M) = 0 then (1, ma_setH (ma_setP M (pl_drop (m_P M))) (hp_become (m_H M) (pl_topFirst (m_P M)) (l_vs M) (l_vf M) (l_vg M)))
  else if pl_topSort (m_P M) = 1 then ma_arg M (pl_topFirst (m_P M))
  else if pl_topSort (m_P M) = 2 then ma_left M (pl_topFirst (m_P M)) (pl_topSecond (m_P M))
  else if pl_topSort (m_P M) = 3 then ma_right M (pl_topFirst (m_P M)) (pl_topSecond (m_P M))
  else if pl_topSort (m_P M) = 4 then ma_test M (pl_topFirst (m_P M)) (pl_topSecond (m_P M))
  else if pl_topSort (m_P M) = 5 then ma_part M (pl_topFirst (m_P M))
  else (2, M)
def ma_tick (M : ZMS) : ZMS := ((l_ss M, l_sp M + 1, l_fo M, l_ba M, l_no M, l_en M, l_vs M, l_vf M, l_vg M), M.2)
def ma_fin (q : Int32 × ZMS) : ZMS := if q.1 = 1 then ma_tick (ma_stat q.2 q.1) else if q.1 = 2 then ma_tick (ma_stat q.2 q.1) else ma_stat q.2 q.1
/-- one turn of run's loop -/
def ma_step (N : ZMS) : ZMS := if l_ba N = 0 then ma_fin (ma_at N) else ma_fin (ma_bk N)
def ma_runN : Nat → ZMS → ZMS
  | 0, N => N
  | n + 1, N => if l_ss N = 1 then ma_runN n (ma_step N) else N
def ma_may (a b : Int32) : Int32 := if a = 0 then (if b < 0 then 0 else if 40 < b then 0 else 1) else if a = 3 then 1 else if b = 0 then 1 else 0
def ma_setX (M : ZMS) (X : ZTS) : ZMS := (M.1, M.2.1, M.2.2.1, X, M.2.2.2.2)
def ma_put (M : ZMS) (a b : Int32) : Int32 × ZMS := if (tm_add (m_X M) a b).1 = 0 then (-1, ma_setX M (tm_add (m_X M) a b).2) else (t_sz (tm_add (m_X M) a b).2, ma_setX M (tm_add (m_X M) a b).2)
/-- the two terms change places -/
def ma_load (M : ZMS) : Int32 × ZMS := ((tm_settle (m_X M)).1, ma_begin (M.1, M.2.1, M.2.2.1, tm_clear (m_Y M), if (tm_settle (m_X M)).1 = 0 then (tm_settle (m_X M)).2 else tm_clear (tm_settle (m_X M)).2) (if (tm_settle (m_X M)).1 = 0 then 1 else 0))
/-- the addresses behind load -/
def lm_sw (ad : Nat → Nat) : Nat → Nat := fun k => if k < 12 then ad k else if k < 19 then ad (k + 7) else if k < 26 then ad (k - 7) else ad k
def ma_result (M : ZMS) (w : Int32) : Int32 := if w = 0 then l_vs M else if w = 1 ∧ l_vs M = 0 ∨ w = 2 ∧ l_vs M = 1 then l_vf M else -1
def ma_into (M : ZMS) (k : Int32) : Int32 × ZMS := ((ma_ask M (if k = 0 then l_vf M else l_vg M)).1, ma_stat (ma_ask M (if k = 0 then l_vf M else l_vg M)).2 (ma_ask M (if k = 0 then l_vf M else l_vg M)).1)
def ma_app (M : ZMS) (v : Int32) : Int32 × ZMS := if (ma_room M 2).1 = 0 then (6, ma_stat (ma_room M 2).2 6)
  else (1, ma_stat (ma_fun (ma_setH (ma_room M 2).2 (hp_take (m_H (ma_room M 2).2) 0 v (-1)).2) (hp_take (m_H (ma_room M 2).2) 0 v (-1)).1) 1)
def ma_count (M : ZMS) (w : Int32) : Int32 × ZMS :=
  if w = 0 then (t_sz (m_X M), M) else if w = 1 then (t_sz (m_Y M), M) else if w = 2 then (l_ss M, M) else if w = 3 then (l_sp M, M) else if w = 4 then (l_fo M, M)
  else if w = 5 then (p_sz (m_P M), M) else if w = 6 then (h_rc (hp_spread (ma_roots M)), ma_setH M (hp_spread (ma_roots M)))
  else if w = 7 then (if l_ss M = 0 then (-1, M) else if l_ba M = 0 then (l_no M, M) else (-1, M)) else if w = 8 then (p_mo (m_P M), M) else (-1, M)
/-! What marking and freeing leave as it was. -/
/-- the cells' own rows are the same -/
def hp_eq (Z S : ZHS) : Prop := h_st Z = h_st S ∧ h_fi Z = h_fi S ∧ h_se Z = h_se S
theorem hp_eq_rf (S : ZHS) : hp_eq S S := ⟨rfl, rfl, rfl⟩
theorem hp_eq_tr {A B C : ZHS} (h : hp_eq A B) (g : hp_eq B C) : hp_eq A C := ⟨h.1.trans g.1, h.2.1.trans g.2.1, h.2.2.trans g.2.2⟩
theorem hp_eq_reach (S : ZHS) (x : Int32) : hp_eq (hp_reach S x) S := by
  obtain ⟨h1, h2, h3, -⟩ := hp_reach_fix S x
  exact ⟨h1, h2, h3⟩
theorem hp_eq_from (S : ZHS) (a b c : Int32) : hp_eq (hp_from S a b c) S := by
  obtain ⟨h1, h2, h3, -⟩ := hp_from_fix S a b c
  exact ⟨h1, h2, h3⟩
theorem hp_ok_eq {Z S : ZHS} (h : hp_eq Z S) (g : hp_ok S) : hp_ok Z := by
  intro j hj
  rw [h.1, h.2.1, h.2.2]
  exact g j hj
theorem pl_eq1 (P : ZPS) (S : ZHS) (k : Nat) : hp_eq (pl_reach1 P S k) S := by
  unfold pl_reach1
  by_cases h1 : p_so P k = 0
  · rw [if_pos h1]; exact hp_eq_reach _ _
  · rw [if_neg h1]
    by_cases h2 : p_so P k = 1
    · rw [if_pos h2]; exact hp_eq_reach _ _
    · rw [if_neg h2]
      by_cases h3 : p_so P k = 2
      · rw [if_pos h3]; exact hp_eq_reach _ _
      · rw [if_neg h3]
        by_cases h4 : p_so P k = 4
        · rw [if_pos h4]; exact hp_eq_reach _ _
        · rw [if_neg h4]; exact hp_eq_rf _
theorem pl_eqN (P : ZPS) : ∀ (n k : Nat) (S : ZHS), hp_eq (pl_reachN P n k S) S := by
  intro n
  induction n with
  | zero => intro k S; exact hp_eq_rf _
  | succ n ih => intro k S; exact hp_eq_tr (ih (k + 1) (pl_reach1 P S k)) (pl_eq1 P S k)
theorem pl_mkN {P : ZPS} {z : Nat} (hc : ∀ j, j < z → (p_so P j = 0 ∨ p_so P j = 1 → hp_c (p_fi P j)) ∧ (p_so P j = 2 ∨ p_so P j = 4 → hp_c (p_se P j))) : ∀ (n k : Nat) (S : ZHS), k + n ≤ z → hp_mk S → hp_mk (pl_reachN P n k S) := by
  intro n
  induction n with
  | zero => intro k S _ h; exact h
  | succ n ih => intro k S hk h; exact ih (k + 1) (pl_reach1 P S k) (by omega) (pl_mk1 h (hc k (by omega)))
theorem hp_mk_pl {P : ZPS} {S : ZHS} (hc : pl_cells P) (h : hp_mk S) : hp_mk (pl_reach P S) := pl_mkN hc _ 0 S (by omega) h
theorem hp_mk_begin (S : ZHS) : hp_mk (hp_begin S) := ⟨0, by omega, rfl, fun i hi => absurd hi (Nat.not_lt_zero _), fun i j hi => absurd hi (Nat.not_lt_zero _)⟩
theorem hp_eq_begin (S : ZHS) : hp_eq (hp_begin S) S := ⟨rfl, rfl, rfl⟩
theorem hp_eq_spreadN : ∀ (n k : Nat) (S : ZHS), hp_eq (hp_spreadN n k S) S := by
  intro n
  induction n with
  | zero => intro k S; rw [hp_spreadN]; exact hp_eq_rf _
  | succ n ih =>
    intro k S
    rw [hp_spreadN]
    by_cases h : h_rc S ≤ nI k
    · rw [if_pos h]; exact hp_eq_rf _
    · rw [if_neg h]; exact hp_eq_tr (ih _ _) (hp_eq_from _ _ _ _)
theorem hp_eq_spread (S : ZHS) : hp_eq (hp_spread S) S := hp_eq_spreadN 256 0 S
def hp_sw1 (Z : ZHS) (k : Nat) : ZHS := if h_mk Z k = h_rd Z then Z else (h_st Z, h_fi Z, h_se Z, upd (h_fc Z) (h_fr Z).toNatClampNeg (nI k), h_mk Z, h_re Z, h_fr Z + 1, h_rd Z, h_rc Z)
theorem hp_eq_sw1 (S : ZHS) (k : Nat) : hp_eq (hp_sw1 S k) S := by
  unfold hp_sw1
  by_cases h : h_mk S k = h_rd S
  · rw [if_pos h]; exact hp_eq_rf _
  · rw [if_neg h]; exact ⟨rfl, rfl, rfl⟩
theorem hp_eq_sweepN : ∀ (n k : Nat) (S : ZHS), hp_eq (hp_sweepN n k S) S := by
  intro n
  induction n with
  | zero => intro k S; rw [hp_sweepN]; exact hp_eq_rf _
  | succ n ih => intro k S; rw [hp_sweepN]; exact hp_eq_tr (ih (k + 1) (hp_sw1 S k)) (hp_eq_sw1 S k)
theorem hp_eq_sweep (S : ZHS) : hp_eq (hp_sweep S) S := hp_eq_tr (hp_eq_sweepN 256 0 (hp_setfr S 0)) ⟨rfl, rfl, rfl⟩
theorem hp_fok_sw1 {Z : ZHS} {k f : Nat} (hf : f ≤ k) (hk : k < 256) (hr : h_fr Z = nI f) (hc : ∀ j, j < f → vp_in (h_fc Z j) 256) : ∃ g, g ≤ k + 1 ∧ h_fr (hp_sw1 Z k) = nI g ∧ ∀ j, j < g → vp_in (h_fc (hp_sw1 Z k) j) 256 := by
  unfold hp_sw1
  by_cases h : h_mk Z k = h_rd Z
  · rw [if_pos h]; exact ⟨f, by omega, hr, hc⟩
  · rw [if_neg h]
    refine ⟨f + 1, by omega, ?_, ?_⟩
    · show h_fr Z + 1 = nI (f + 1)
      rw [hr]; exact (nI_succ f).symm
    · intro j hj
      show vp_in (upd (h_fc Z) (h_fr Z).toNatClampNeg (nI k) j) 256
      rw [hr, nI_clamp (by omega)]
      by_cases hjf : j = f
      · subst hjf; rw [pk_us]; exact vp_in_nI hk (by decide)
      · rw [pk_un hjf]; exact hc j (by omega)
theorem hp_fok_sweepN : ∀ (n k f : Nat) (Z : ZHS), k + n = 256 → f ≤ k → h_fr Z = nI f → (∀ j, j < f → vp_in (h_fc Z j) 256) → hp_fok (hp_sweepN n k Z) := by
  intro n
  induction n with
  | zero => intro k f Z hk hf hr hc; rw [hp_sweepN]; exact ⟨f, by omega, hr, hc⟩
  | succ n ih =>
    intro k f Z hk hf hr hc
    obtain ⟨g, hg, hr2, hc2⟩ := hp_fok_sw1 hf (by omega) hr hc
    rw [hp_sweepN]
    exact ih (k + 1) g (hp_sw1 Z k) (by omega) hg hr2 hc2
theorem hp_fok_sweep (S : ZHS) : hp_fok (hp_sweep S) := hp_fok_sweepN 256 0 0 (hp_setfr S 0) rfl (by omega) rfl (fun j hj => absurd hj (Nat.not_lt_zero _))
theorem hp_fok_become {S : ZHS} {x a b c : Int32} (h : hp_fok S) : hp_fok (hp_become S x a b c) := by
  unfold hp_become
  by_cases h1 : x = -1
  · rw [if_pos h1]; exact h
  · rw [if_neg h1]; exact h
theorem hp_fok_take {S : ZHS} {a b c : Int32} (h : hp_fok S) : hp_fok (hp_take S a b c).2 := by
  unfold hp_take
  by_cases h1 : h_fr S = 0
  · rw [if_pos h1]; exact h
  · rw [if_neg h1]
    refine hp_fok_become ?_
    obtain ⟨f, hf, hr, hc⟩ := h
    obtain ⟨g, rfl⟩ : ∃ g, f = g + 1 := by
      rcases f with _ | g
      · exact absurd hr h1
      · exact ⟨g, rfl⟩
    refine ⟨g, by omega, ?_, fun j hj => hc j (by omega)⟩
    show h_fr S - 1 = nI g
    rw [hr]; exact nI_pred g
/-- what the machine's methods ask of their rows so that no index is out -/
def ma_lo (M : ZMS) : Prop := hp_ok (m_H M) ∧ hp_fok (m_H M) ∧ pl_ok (m_P M) ∧ pl_cells (m_P M) ∧ (l_ba M = 0 → hp_c (l_en M)) ∧ (¬ l_ba M = 0 → (l_vs M = 5 ∨ l_vs M = 2 → hp_c (l_vf M)) ∧ hp_c (l_vg M))
def tm_lo (Y : ZTS) : Prop := (∀ j, j < 600 → vp_in (t_pa Y j) 200) ∧ ∀ j, j < 200 → t_so Y j = 0 → ∃ n : Nat, n < 1000 ∧ t_xs Y j = nI n
theorem ma_mk_roots {M : ZMS} (h : ma_lo M) : hp_mk (ma_roots M) := by
  obtain ⟨_, _, _, h4, h5, h6⟩ := h
  unfold ma_roots
  refine hp_mk_pl h4 ?_
  by_cases hb : l_ba M = 0
  · rw [if_pos hb]; exact hp_mk_reach (hp_mk_begin _) (h5 hb)
  · rw [if_neg hb]; exact hp_mk_from (hp_mk_begin _) (h6 hb).1 (h6 hb).2
theorem ma_eq_roots (M : ZMS) : hp_eq (ma_roots M) (m_H M) := by
  unfold ma_roots pl_reach
  refine hp_eq_tr (pl_eqN _ _ _ _) ?_
  by_cases hb : l_ba M = 0
  · rw [if_pos hb]; exact hp_eq_tr (hp_eq_reach _ _) (hp_eq_begin _)
  · rw [if_neg hb]; exact hp_eq_tr (hp_eq_from _ _ _ _) (hp_eq_begin _)
theorem ma_gc_H (M : ZMS) : m_H (ma_gc M) = hp_sweep (hp_spread (ma_roots M)) := by
  unfold ma_gc ma_setH
  rfl
theorem ma_lo_gc {M : ZMS} (h : ma_lo M) : ma_lo (ma_gc M) := by
  unfold ma_lo
  rw [ma_gc_H]
  refine ⟨hp_ok_eq (hp_eq_tr (hp_eq_sweep (hp_spread (ma_roots M))) (hp_eq_tr (hp_eq_spread (ma_roots M)) (ma_eq_roots M))) h.1, hp_fok_sweep (hp_spread (ma_roots M)), h.2.2.1, h.2.2.2.1, h.2.2.2.2.1, h.2.2.2.2.2⟩
theorem ma_lo_room {M : ZMS} {n : Int32} (h : ma_lo M) : ma_lo (ma_roomM M n) := by
  unfold ma_roomM
  by_cases h1 : n ≤ h_fr (m_H M)
  · rw [if_pos h1]; exact h
  · rw [if_neg h1]; exact ma_lo_gc h
theorem nd_ix {x : Int32} (h : vp_in x 200) {w : Nat} (hw : w < 3) : vp_in (x * 3 + nI w) 600 := by
  obtain ⟨j, hj, rfl⟩ := vp_in_of h (by decide)
  rw [show (3 : Int32) = nI 3 from rfl, pk_mul, nI_add]
  exact vp_in_nI (by omega) (by decide)
theorem nd_part {Y : ZTS} {x : Int32} (hY : tm_lo Y) (h : vp_in x 200) {w : Nat} (hw : w < 3) : vp_in (tm_part Y x (nI w)) 200 := hY.1 _ (hp_in_lt (nd_ix h hw) (by decide))
theorem ma_room_fix (M : ZMS) (n : Int32) : (ma_room M n).2.1 = M.1 ∧ (ma_room M n).2.2.2 = M.2.2 := by
  show (ma_roomM M n).1 = M.1 ∧ (ma_roomM M n).2.2 = M.2.2
  unfold ma_roomM
  by_cases h1 : n ≤ h_fr (m_H M)
  · rw [if_pos h1]; exact ⟨rfl, rfl⟩
  · rw [if_neg h1]; exact ⟨rfl, rfl⟩
theorem ma_room_P (M : ZMS) (n : Int32) : m_P (ma_room M n).2 = m_P M := by show (ma_room M n).2.2.2.1 = _; rw [(ma_room_fix M n).2]
theorem ma_room_Y (M : ZMS) (n : Int32) : m_Y (ma_room M n).2 = m_Y M := by show (ma_room M n).2.2.2.2.2 = _; rw [(ma_room_fix M n).2]
theorem ma_room_no (M : ZMS) (n : Int32) : l_no (ma_room M n).2 = l_no M := by show (ma_room M n).2.1.2.2.2.2.1 = _; rw [(ma_room_fix M n).1]
theorem ma_room_en (M : ZMS) (n : Int32) : l_en (ma_room M n).2 = l_en M := by show (ma_room M n).2.1.2.2.2.2.2.1 = _; rw [(ma_room_fix M n).1]
theorem ma_room_vf (M : ZMS) (n : Int32) : l_vf (ma_room M n).2 = l_vf M := by show (ma_room M n).2.1.2.2.2.2.2.2.2.1 = _; rw [(ma_room_fix M n).1]
theorem ma_thunk_fix (M : ZMS) (p : Int32) : (ma_thunk M p).2.1 = M.1 ∧ (ma_thunk M p).2.2.2 = M.2.2 := by
  unfold ma_thunk
  by_cases h1 : t_so (m_Y M) p.toNatClampNeg = 0
  · rw [if_pos h1]; exact ⟨rfl, rfl⟩
  · rw [if_neg h1]; exact ⟨rfl, rfl⟩
theorem ma_thunk_P (M : ZMS) (p : Int32) : m_P (ma_thunk M p).2 = m_P M := by show (ma_thunk M p).2.2.2.1 = _; rw [(ma_thunk_fix M p).2]
theorem ma_thunk_Y (M : ZMS) (p : Int32) : m_Y (ma_thunk M p).2 = m_Y M := by show (ma_thunk M p).2.2.2.2.2 = _; rw [(ma_thunk_fix M p).2]
theorem ma_thunk_no (M : ZMS) (p : Int32) : l_no (ma_thunk M p).2 = l_no M := by show (ma_thunk M p).2.1.2.2.2.2.1 = _; rw [(ma_thunk_fix M p).1]
theorem ma_thunk_en (M : ZMS) (p : Int32) : l_en (ma_thunk M p).2 = l_en M := by show (ma_thunk M p).2.1.2.2.2.2.2.1 = _; rw [(ma_thunk_fix M p).1]
theorem th_room {M : ZMS} {n : Int32} (hi : ma_lo M) (ht : tm_lo (m_Y M)) (he : hp_c (l_en M)) : (∀ j, j < 256 → hp_c (h_se (m_H (ma_room M n).2) j)) ∧ hp_fok (m_H (ma_room M n).2) ∧ hp_c (l_en (ma_room M n).2) ∧ tm_lo (m_Y (ma_room M n).2) :=
  ⟨fun j hj => ((ma_lo_room (n := n) hi).1 j hj).2, (ma_lo_room (n := n) hi).2.1, by rw [ma_room_en]; exact he, by rw [ma_room_Y]; exact ht⟩
theorem hp_fok_thunk {M : ZMS} {p : Int32} (h : hp_fok (m_H M)) : hp_fok (m_H (ma_thunk M p).2) := by
  unfold ma_thunk
  by_cases h1 : t_so (m_Y M) p.toNatClampNeg = 0
  · rw [if_pos h1]; exact h
  · rw [if_neg h1]; exact hp_fok_take h
theorem hp_se_become {S : ZHS} {x a b c : Int32} (h : ∀ j, j < 256 → hp_c (h_se S j)) (hc : hp_c c) : ∀ j, j < 256 → hp_c (h_se (hp_become S x a b c) j) := by
  intro j hj
  unfold hp_become
  by_cases h1 : x = -1
  · rw [if_pos h1]; exact h j hj
  · rw [if_neg h1]
    show hp_c (upd (h_se S) x.toNatClampNeg c j)
    unfold upd
    by_cases h2 : j = x.toNatClampNeg
    · rw [if_pos h2]; exact hc
    · rw [if_neg h2]; exact h j hj
theorem hp_se_take {S : ZHS} {a b c : Int32} (h : ∀ j, j < 256 → hp_c (h_se S j)) (hc : hp_c c) : ∀ j, j < 256 → hp_c (h_se (hp_take S a b c).2 j) := by
  unfold hp_take
  by_cases h1 : h_fr S = 0
  · rw [if_pos h1]; exact h
  · rw [if_neg h1]; exact hp_se_become (S := hp_setfr S (h_fr S - 1)) h hc
theorem hp_se_thunk {M : ZMS} {p : Int32} (h : ∀ j, j < 256 → hp_c (h_se (m_H M) j)) (he : hp_c (l_en M)) : ∀ j, j < 256 → hp_c (h_se (m_H (ma_thunk M p).2) j) := by
  unfold ma_thunk
  by_cases h1 : t_so (m_Y M) p.toNatClampNeg = 0
  · rw [if_pos h1]; exact h
  · rw [if_neg h1]; exact hp_se_take h he
theorem pl_ok_drop {P : ZPS} (h : pl_ok P) : pl_ok (pl_drop P) := by
  unfold pl_drop
  by_cases h1 : p_sz P ≤ 0
  · rw [if_pos h1]; exact h
  · rw [if_neg h1]
    obtain ⟨z, hz, hs⟩ := h
    obtain ⟨g, rfl⟩ : ∃ g, z = g + 1 := by
      rcases z with _ | g
      · exact absurd (by rw [hs]; decide) h1
      · exact ⟨g, rfl⟩
    exact ⟨g, by omega, by show p_sz P - 1 = nI g; rw [hs]; exact nI_pred g⟩
/-- what a step at a node asks -/
def sf_at (M : ZMS) : Prop := ma_lo M ∧ tm_lo (m_Y M) ∧ vp_in (l_no M) 200 ∧ hp_c (l_en M) ∧ (t_so (m_Y M) (l_no M).toNatClampNeg = 0 → hp_c (hp_bound (m_H M) (l_en M) (t_xs (m_Y M) (l_no M).toNatClampNeg)))
/-- what a step back with a value asks -/
def sf_bk (M : ZMS) : Prop := ma_lo M ∧ (pl_topSort (m_P M) = 0 → hp_c (pl_topFirst (m_P M))) ∧ (l_vs M = 1 → vp_in (l_vf M) 200) ∧ (l_vs M = 2 → hp_c (l_vf M) ∧ hp_c (l_vg M)) ∧ (pl_topSort (m_P M) = 2 ∨ pl_topSort (m_P M) = 3 ∨ pl_topSort (m_P M) = 4 → vp_in (pl_topFirst (m_P M)) 200)
def sf_step (M : ZMS) : Prop := (l_ba M = 0 → sf_at M) ∧ (¬ l_ba M = 0 → sf_bk M)
end
section
set_option maxHeartbeats 4000000 in
set_option maxRecDepth 100000 in
theorem c_LazyMachine_enter (l : Launch) (dC : Nat → ClassId) (dI : Nat → Nat → Nat) (cA : ClassId)  (ad : Nat → Nat) (sz : Nat) (M : ZMS) (x1 x2 : Int32)  : Met l y_LazyMachine_enter w_LazyMachine_enter ({ frames := 0, cells := 0, slots := 0, locals := 0 } : Room) (va_Pc [.ref (ad 0), .int x1, .int x2] (lm_pre (dC, dI) classes [(cA, .int)] (lz_W cA ad M) sz lm_no)) (va_Qv (fun (u : ZMS) => u = ma_enter M x1 x2) (fun u => lm_at (dC, dI) classes [(cA, .int)] (va_A (lz_W cA ad M) sz) (lz_W cA ad u)) (va_A (lz_W cA ad M) sz)) 0 0 (va_A (lz_W cA ad M) sz) := by
  obtain ⟨⟨ss, sp, fo, ba, no, en, vs, vf, vg⟩, SM, PM, XM, YM⟩ := M
  refine lm_met (fun A => va_Qv (fun (u : ZMS) => u = ma_enter ((ss, sp, fo, ba, no, en, vs, vf, vg), SM, PM, XM, YM) x1 x2) (fun u => lm_at (dC, dI) classes [(cA, .int)] A (lz_W cA ad u)) A) (by decide) rfl (Nat.le_of_ble_eq_true rfl) ?_
  intro p e s m below meth c A hx hb hr hts hown hlocks hname hml hK hP hD hA hE hsz hAe hS ls hl
  replace hl : lv_has ls 3 [(0, .ref (ad 0)), (1, .int x1), (2, .int x2)] := hl
  clear hAe hsz
  refine lv_aload_n hx hb d_LazyMachine_enter_0 rfl (lv_at hl 0 rfl) ?_
  refine lv_iconst (v := 0) hx hb d_LazyMachine_enter_1 (by decide) ?_
  refine va_put (D := (dC, dI)) (ci := 0) (v := .int 0) (ty := .boolean) (C := R_LazyMachine) (T := F_LazyMachine) (N := 13) hx hb hts (fun q hq => List.mem_cons_of_mem _ (i_LazyMachine q hq)) t_LazyMachine t_LazyMachine_ok n_LazyMachine hown hK hP hD hS 0 rfl rfl 7 (by decide) (hts _ (List.mem_cons_of_mem _ m_2_14)) (fun _ h9 => h9) rfl (by decide +kernel) (by decide +kernel) (by decide +kernel) (Nat.le_of_ble_eq_true rfl) d_LazyMachine_enter_2 (fun H locs hP hD hS => ?_)
  have hP : va_P (dC, dI) classes (lz_W cA ad ((ss, sp, fo, 0, no, en, vs, vf, vg), SM, PM, XM, YM)) H := hP
  have hD : va_D A (lz_W cA ad ((ss, sp, fo, 0, no, en, vs, vf, vg), SM, PM, XM, YM)) := hD
  refine lv_aload_n hx hb d_LazyMachine_enter_5 rfl (lv_at hl 0 rfl) ?_
  refine lv_iload_n hx hb d_LazyMachine_enter_6 rfl (lv_at hl 1 rfl) ?_
  refine va_put (D := (dC, dI)) (ci := 0) (v := .int x1) (ty := .int) (C := R_LazyMachine) (T := F_LazyMachine) (N := 13) hx hb hts (fun q hq => List.mem_cons_of_mem _ (i_LazyMachine q hq)) t_LazyMachine t_LazyMachine_ok n_LazyMachine hown hK hP hD hS 0 rfl rfl 8 (by decide) (hts _ (List.mem_cons_of_mem _ m_2_15)) (fun _ h9 => h9) rfl (by decide +kernel) rfl rfl (Nat.le_of_ble_eq_true rfl) d_LazyMachine_enter_7 (fun H locs hP hD hS => ?_)
  have hP : va_P (dC, dI) classes (lz_W cA ad ((ss, sp, fo, 0, x1, en, vs, vf, vg), SM, PM, XM, YM)) H := hP
  have hD : va_D A (lz_W cA ad ((ss, sp, fo, 0, x1, en, vs, vf, vg), SM, PM, XM, YM)) := hD
  refine lv_aload_n hx hb d_LazyMachine_enter_10 rfl (lv_at hl 0 rfl) ?_
  refine lv_iload_n hx hb d_LazyMachine_enter_11 rfl (lv_at hl 2 rfl) ?_
  refine va_put (D := (dC, dI)) (ci := 0) (v := .int x2) (ty := .int) (C := R_LazyMachine) (T := F_LazyMachine) (N := 13) hx hb hts (fun q hq => List.mem_cons_of_mem _ (i_LazyMachine q hq)) t_LazyMachine t_LazyMachine_ok n_LazyMachine hown hK hP hD hS 0 rfl rfl 9 (by decide) (hts _ (List.mem_cons_of_mem _ m_2_16)) (fun _ h9 => h9) rfl (by decide +kernel) rfl rfl (Nat.le_of_ble_eq_true rfl) d_LazyMachine_enter_12 (fun H locs hP hD hS => ?_)
  have hP : va_P (dC, dI) classes (lz_W cA ad ((ss, sp, fo, 0, x1, x2, vs, vf, vg), SM, PM, XM, YM)) H := hP
  have hD : va_D A (lz_W cA ad ((ss, sp, fo, 0, x1, x2, vs, vf, vg), SM, PM, XM, YM)) := hD
  refine lm_rv hx hb hr hlocks ((ss, sp, fo, 0, x1, x2, vs, vf, vg), SM, PM, XM, YM) ?_ hP hK hD hS d_LazyMachine_enter_15
  rfl
set_option maxHeartbeats 4000000 in
set_option maxRecDepth 100000 in
theorem c_LazyMachine_backWith (l : Launch) (dC : Nat → ClassId) (dI : Nat → Nat → Nat) (cA : ClassId)  (ad : Nat → Nat) (sz : Nat) (M : ZMS) (x1 x2 x3 : Int32)  : Met l y_LazyMachine_backWith w_LazyMachine_backWith ({ frames := 0, cells := 0, slots := 0, locals := 0 } : Room) (va_Pc [.ref (ad 0), .int x1, .int x2, .int x3] (lm_pre (dC, dI) classes [(cA, .int)] (lz_W cA ad M) sz lm_no)) (va_Qi (fun (r : Int32) (u : ZMS) => r = 1 ∧ u = ma_back M x1 x2 x3) (fun u => lm_at (dC, dI) classes [(cA, .int)] (va_A (lz_W cA ad M) sz) (lz_W cA ad u)) (va_A (lz_W cA ad M) sz)) 0 0 (va_A (lz_W cA ad M) sz) := by
  obtain ⟨⟨ss, sp, fo, ba, no, en, vs, vf, vg⟩, SM, PM, XM, YM⟩ := M
  refine lm_met (fun A => va_Qi (fun (r : Int32) (u : ZMS) => r = 1 ∧ u = ma_back ((ss, sp, fo, ba, no, en, vs, vf, vg), SM, PM, XM, YM) x1 x2 x3) (fun u => lm_at (dC, dI) classes [(cA, .int)] A (lz_W cA ad u)) A) (by decide) rfl (Nat.le_of_ble_eq_true rfl) ?_
  intro p e s m below meth c A hx hb hr hts hown hlocks hname hml hK hP hD hA hE hsz hAe hS ls hl
  replace hl : lv_has ls 4 [(0, .ref (ad 0)), (1, .int x1), (2, .int x2), (3, .int x3)] := hl
  clear hAe hsz
  refine lv_aload_n hx hb d_LazyMachine_backWith_0 rfl (lv_at hl 0 rfl) ?_
  refine lv_iconst (v := 1) hx hb d_LazyMachine_backWith_1 (by decide) ?_
  refine va_put (D := (dC, dI)) (ci := 0) (v := .int 1) (ty := .boolean) (C := R_LazyMachine) (T := F_LazyMachine) (N := 13) hx hb hts (fun q hq => List.mem_cons_of_mem _ (i_LazyMachine q hq)) t_LazyMachine t_LazyMachine_ok n_LazyMachine hown hK hP hD hS 0 rfl rfl 7 (by decide) (hts _ (List.mem_cons_of_mem _ m_2_14)) (fun _ h9 => h9) rfl (by decide +kernel) (by decide +kernel) (by decide +kernel) (Nat.le_of_ble_eq_true rfl) d_LazyMachine_backWith_2 (fun H locs hP hD hS => ?_)
  have hP : va_P (dC, dI) classes (lz_W cA ad ((ss, sp, fo, 1, no, en, vs, vf, vg), SM, PM, XM, YM)) H := hP
  have hD : va_D A (lz_W cA ad ((ss, sp, fo, 1, no, en, vs, vf, vg), SM, PM, XM, YM)) := hD
  refine lv_aload_n hx hb d_LazyMachine_backWith_5 rfl (lv_at hl 0 rfl) ?_
  refine lv_iload_n hx hb d_LazyMachine_backWith_6 rfl (lv_at hl 1 rfl) ?_
  refine va_put (D := (dC, dI)) (ci := 0) (v := .int x1) (ty := .int) (C := R_LazyMachine) (T := F_LazyMachine) (N := 13) hx hb hts (fun q hq => List.mem_cons_of_mem _ (i_LazyMachine q hq)) t_LazyMachine t_LazyMachine_ok n_LazyMachine hown hK hP hD hS 0 rfl rfl 10 (by decide) (hts _ (List.mem_cons_of_mem _ m_2_17)) (fun _ h9 => h9) rfl (by decide +kernel) rfl rfl (Nat.le_of_ble_eq_true rfl) d_LazyMachine_backWith_7 (fun H locs hP hD hS => ?_)
  have hP : va_P (dC, dI) classes (lz_W cA ad ((ss, sp, fo, 1, no, en, x1, vf, vg), SM, PM, XM, YM)) H := hP
  have hD : va_D A (lz_W cA ad ((ss, sp, fo, 1, no, en, x1, vf, vg), SM, PM, XM, YM)) := hD
  refine lv_aload_n hx hb d_LazyMachine_backWith_10 rfl (lv_at hl 0 rfl) ?_
  refine lv_iload_n hx hb d_LazyMachine_backWith_11 rfl (lv_at hl 2 rfl) ?_
  refine va_put (D := (dC, dI)) (ci := 0) (v := .int x2) (ty := .int) (C := R_LazyMachine) (T := F_LazyMachine) (N := 13) hx hb hts (fun q hq => List.mem_cons_of_mem _ (i_LazyMachine q hq)) t_LazyMachine t_LazyMachine_ok n_LazyMachine hown hK hP hD hS 0 rfl rfl 11 (by decide) (hts _ (List.mem_cons_of_mem _ m_2_18)) (fun _ h9 => h9) rfl (by decide +kernel) rfl rfl (Nat.le_of_ble_eq_true rfl) d_LazyMachine_backWith_12 (fun H locs hP hD hS => ?_)
  have hP : va_P (dC, dI) classes (lz_W cA ad ((ss, sp, fo, 1, no, en, x1, x2, vg), SM, PM, XM, YM)) H := hP
  have hD : va_D A (lz_W cA ad ((ss, sp, fo, 1, no, en, x1, x2, vg), SM, PM, XM, YM)) := hD
  refine lv_aload_n hx hb d_LazyMachine_backWith_15 rfl (lv_at hl 0 rfl) ?_
  refine lv_iload_n hx hb d_LazyMachine_backWith_16 rfl (lv_at hl 3 rfl) ?_
  refine va_put (D := (dC, dI)) (ci := 0) (v := .int x3) (ty := .int) (C := R_LazyMachine) (T := F_LazyMachine) (N := 13) hx hb hts (fun q hq => List.mem_cons_of_mem _ (i_LazyMachine q hq)) t_LazyMachine t_LazyMachine_ok n_LazyMachine hown hK hP hD hS 0 rfl rfl 12 (by decide) (hts _ (List.mem_cons_of_mem _ m_2_19)) (fun _ h9 => h9) rfl (by decide +kernel) rfl rfl (Nat.le_of_ble_eq_true rfl) d_LazyMachine_backWith_17 (fun H locs hP hD hS => ?_)
  have hP : va_P (dC, dI) classes (lz_W cA ad ((ss, sp, fo, 1, no, en, x1, x2, x3), SM, PM, XM, YM)) H := hP
  have hD : va_D A (lz_W cA ad ((ss, sp, fo, 1, no, en, x1, x2, x3), SM, PM, XM, YM)) := hD
  refine lv_iconst (v := 1) hx hb d_LazyMachine_backWith_20 (by decide) ?_
  refine lm_ri (v := 1) hx hb hr hlocks ((ss, sp, fo, 1, no, en, x1, x2, x3), SM, PM, XM, YM) ?_ hP hK hD hS d_LazyMachine_backWith_21
  exact ⟨rfl, rfl⟩
set_option maxHeartbeats 4000000 in
set_option maxRecDepth 100000 in
theorem c_LazyMachine_begin (l : Launch) (dC : Nat → ClassId) (dI : Nat → Nat → Nat) (cA : ClassId)  (ad : Nat → Nat) (sz : Nat) (M : ZMS) (x : Int32)  : Met l y_LazyMachine_begin w_LazyMachine_begin ({ frames := 2, cells := 0, slots := 0, locals := 41 } : Room) (va_Pc [.ref (ad 0), .int x] (lm_pre (dC, dI) classes [(cA, .int)] (lz_W cA ad M) sz lm_no)) (va_Qv (fun (u : ZMS) => u = ma_begin M x) (fun u => lm_at (dC, dI) classes [(cA, .int)] (va_A (lz_W cA ad M) sz) (lz_W cA ad u)) (va_A (lz_W cA ad M) sz)) 0 0 (va_A (lz_W cA ad M) sz) := by
  obtain ⟨⟨ss, sp, fo, ba, no, en, vs, vf, vg⟩, SM, PM, XM, YM⟩ := M
  refine lm_met (fun A => va_Qv (fun (u : ZMS) => u = ma_begin ((ss, sp, fo, ba, no, en, vs, vf, vg), SM, PM, XM, YM) x) (fun u => lm_at (dC, dI) classes [(cA, .int)] A (lz_W cA ad u)) A) (by decide) rfl (Nat.le_of_ble_eq_true rfl) ?_
  intro p e s m below meth c A hx hb hr hts hown hlocks hname hml hK hP hD hA hE hsz hAe hS ls hl
  replace hl : lv_has ls 2 [(0, .ref (ad 0)), (1, .int x)] := hl
  clear hAe hsz
  refine lv_aload_n hx hb d_LazyMachine_begin_0 rfl (lv_at hl 0 rfl) ?_
  refine va_get (D := (dC, dI)) (ci := 0) (v := .ref (ad 1)) (C := R_LazyMachine) (T := F_LazyMachine) (N := 13) hx hb hts (fun q hq => List.mem_cons_of_mem _ (i_LazyMachine q hq)) hown hK hP 0 rfl rfl 0 (by decide) (hts _ (List.mem_cons_of_mem _ m_2_7)) (fun _ h9 => h9) rfl d_LazyMachine_begin_1 ?_
  refine lm_vv (b := ad 1) (As := []) (rest := []) (wr := (ma_W cA ad (ss, sp, fo, ba, no, en, vs, vf, vg)) ++ (pl_W cA (fun k => ad (k + 8)) PM) ++ (tm_W cA (fun k => ad (k + 12)) XM) ++ (tm_W cA (fun k => ad (k + 19)) YM)) ⟨hx, hb, hml, hown, hts⟩ hK hP hD hS hA [1, 2, 3, 4, 5, 6, 7] [0, 8, 9, 10, 11, 12, 13, 14, 15, 16, 17, 18, 19, 20, 21, 22, 23, 24, 25] rfl rfl (by decide) (by decide) (by decide) (c_Heap_empty l dC dI cA (fun k => ad (k + 1)) _ SM  ) (cwV 0 hts (lm_gV m_3_17 m_3_18 m_3_19 m_0_2 m_3_20) rfl rfl rfl (by decide +kernel) ⟨Nat.le_of_ble_eq_true rfl, Nat.le_of_ble_eq_true rfl⟩) (va_recv (q0 := 1) hK hP rfl rfl) lm_bl_no (fun _ _ _ => trivial) hl.1 rfl rfl (Nat.le_of_ble_eq_true rfl) d_LazyMachine_begin_4 ⟨Nat.le_of_ble_eq_true rfl, Nat.le_of_ble_eq_true rfl⟩ (fun u4 H locs w4 hP hD hS => ?_)
  have hP : va_P (dC, dI) classes (lz_W cA ad ((ss, sp, fo, ba, no, en, vs, vf, vg), u4, PM, XM, YM)) H := hP.sub [0, 19, 20, 21, 22, 23, 24, 25, 1, 2, 3, 4, 5, 6, 7, 8, 9, 10, 11, 12, 13, 14, 15, 16, 17, 18] rfl
  have hD : va_D A (lz_W cA ad ((ss, sp, fo, ba, no, en, vs, vf, vg), u4, PM, XM, YM)) := hD.sub [0, 19, 20, 21, 22, 23, 24, 25, 1, 2, 3, 4, 5, 6, 7, 8, 9, 10, 11, 12, 13, 14, 15, 16, 17, 18] (by decide) rfl
  refine lv_aload_n hx hb d_LazyMachine_begin_7 rfl (lv_at hl 0 rfl) ?_
  refine va_get (D := (dC, dI)) (ci := 0) (v := .ref (ad 8)) (C := R_LazyMachine) (T := F_LazyMachine) (N := 13) hx hb hts (fun q hq => List.mem_cons_of_mem _ (i_LazyMachine q hq)) hown hK hP 0 rfl rfl 1 (by decide) (hts _ (List.mem_cons_of_mem _ m_2_8)) (fun _ h9 => h9) rfl d_LazyMachine_begin_8 ?_
  refine lm_vv (b := ad 8) (As := []) (rest := []) (wr := (ma_W cA ad (ss, sp, fo, ba, no, en, vs, vf, vg)) ++ (hp_W cA (fun k => ad (k + 1)) u4) ++ (tm_W cA (fun k => ad (k + 12)) XM) ++ (tm_W cA (fun k => ad (k + 19)) YM)) ⟨hx, hb, hml, hown, hts⟩ hK hP hD hS hA [8, 9, 10, 11] [0, 1, 2, 3, 4, 5, 6, 7, 12, 13, 14, 15, 16, 17, 18, 19, 20, 21, 22, 23, 24, 25] rfl rfl (by decide) (by decide) (by decide) (c_Pile_empty l dC dI cA (fun k => ad (k + 8)) _ PM  ) (cwV 0 hts (lm_gV m_4_5 m_4_6 m_4_7 m_0_3 m_4_8) rfl rfl rfl (by decide +kernel) ⟨Nat.le_of_ble_eq_true rfl, Nat.le_of_ble_eq_true rfl⟩) (va_recv (q0 := 8) hK hP rfl rfl) lm_bl_no (fun _ _ _ => trivial) hl.1 rfl rfl (Nat.le_of_ble_eq_true rfl) d_LazyMachine_begin_11 ⟨Nat.le_of_ble_eq_true rfl, Nat.le_of_ble_eq_true rfl⟩ (fun u11 H locs w11 hP hD hS => ?_)
  have hP : va_P (dC, dI) classes (lz_W cA ad ((ss, sp, fo, ba, no, en, vs, vf, vg), u4, u11, XM, YM)) H := hP.sub [0, 1, 2, 3, 4, 5, 6, 7, 22, 23, 24, 25, 8, 9, 10, 11, 12, 13, 14, 15, 16, 17, 18, 19, 20, 21] rfl
  have hD : va_D A (lz_W cA ad ((ss, sp, fo, ba, no, en, vs, vf, vg), u4, u11, XM, YM)) := hD.sub [0, 1, 2, 3, 4, 5, 6, 7, 22, 23, 24, 25, 8, 9, 10, 11, 12, 13, 14, 15, 16, 17, 18, 19, 20, 21] (by decide) rfl
  refine lv_aload_n hx hb d_LazyMachine_begin_14 rfl (lv_at hl 0 rfl) ?_
  refine lv_iconst (v := 0) hx hb d_LazyMachine_begin_15 (by decide) ?_
  refine va_put (D := (dC, dI)) (ci := 0) (v := .int 0) (ty := .int) (C := R_LazyMachine) (T := F_LazyMachine) (N := 13) hx hb hts (fun q hq => List.mem_cons_of_mem _ (i_LazyMachine q hq)) t_LazyMachine t_LazyMachine_ok n_LazyMachine hown hK hP hD hS 0 rfl rfl 5 (by decide) (hts _ (List.mem_cons_of_mem _ m_2_12)) (fun _ h9 => h9) rfl (by decide +kernel) rfl rfl (Nat.le_of_ble_eq_true rfl) d_LazyMachine_begin_16 (fun H locs hP hD hS => ?_)
  have hP : va_P (dC, dI) classes (lz_W cA ad ((ss, 0, fo, ba, no, en, vs, vf, vg), u4, u11, XM, YM)) H := hP
  have hD : va_D A (lz_W cA ad ((ss, 0, fo, ba, no, en, vs, vf, vg), u4, u11, XM, YM)) := hD
  refine lv_aload_n hx hb d_LazyMachine_begin_19 rfl (lv_at hl 0 rfl) ?_
  refine lv_iconst (v := 0) hx hb d_LazyMachine_begin_20 (by decide) ?_
  refine va_put (D := (dC, dI)) (ci := 0) (v := .int 0) (ty := .int) (C := R_LazyMachine) (T := F_LazyMachine) (N := 13) hx hb hts (fun q hq => List.mem_cons_of_mem _ (i_LazyMachine q hq)) t_LazyMachine t_LazyMachine_ok n_LazyMachine hown hK hP hD hS 0 rfl rfl 6 (by decide) (hts _ (List.mem_cons_of_mem _ m_2_13)) (fun _ h9 => h9) rfl (by decide +kernel) rfl rfl (Nat.le_of_ble_eq_true rfl) d_LazyMachine_begin_21 (fun H locs hP hD hS => ?_)
  have hP : va_P (dC, dI) classes (lz_W cA ad ((ss, 0, 0, ba, no, en, vs, vf, vg), u4, u11, XM, YM)) H := hP
  have hD : va_D A (lz_W cA ad ((ss, 0, 0, ba, no, en, vs, vf, vg), u4, u11, XM, YM)) := hD
  refine lv_aload_n hx hb d_LazyMachine_begin_24 rfl (lv_at hl 0 rfl) ?_
  refine lv_iload_n hx hb d_LazyMachine_begin_25 rfl (lv_at hl 1 rfl) ?_
  refine va_put (D := (dC, dI)) (ci := 0) (v := .int x) (ty := .int) (C := R_LazyMachine) (T := F_LazyMachine) (N := 13) hx hb hts (fun q hq => List.mem_cons_of_mem _ (i_LazyMachine q hq)) t_LazyMachine t_LazyMachine_ok n_LazyMachine hown hK hP hD hS 0 rfl rfl 4 (by decide) (hts _ (List.mem_cons_of_mem _ m_2_11)) (fun _ h9 => h9) rfl (by decide +kernel) rfl rfl (Nat.le_of_ble_eq_true rfl) d_LazyMachine_begin_26 (fun H locs hP hD hS => ?_)
  have hP : va_P (dC, dI) classes (lz_W cA ad ((x, 0, 0, ba, no, en, vs, vf, vg), u4, u11, XM, YM)) H := hP
  have hD : va_D A (lz_W cA ad ((x, 0, 0, ba, no, en, vs, vf, vg), u4, u11, XM, YM)) := hD
  refine lv_aload_n hx hb d_LazyMachine_begin_29 rfl (lv_at hl 0 rfl) ?_
  refine lv_iconst (v := 0) hx hb d_LazyMachine_begin_30 (by decide) ?_
  refine lv_iconst (v := -1) hx hb d_LazyMachine_begin_31 (by decide) ?_
  refine lm_vv (b := ad 0) (As := [.int 0, .int (-1)]) (rest := []) (wr := ([] : va_W)) ⟨hx, hb, hml, hown, hts⟩ hK hP hD hS hA [0, 1, 2, 3, 4, 5, 6, 7, 8, 9, 10, 11, 12, 13, 14, 15, 16, 17, 18, 19, 20, 21, 22, 23, 24, 25] [] rfl rfl (by decide) (by decide) (by decide) (c_LazyMachine_enter l dC dI cA ad _ ((x, 0, 0, ba, no, en, vs, vf, vg), u4, u11, XM, YM) 0 (-1) ) (cwV 2 hts (lm_gV m_4_9 m_4_10 m_19_6 m_0_1 m_4_11) rfl rfl rfl (by decide +kernel) ⟨Nat.le_of_ble_eq_true rfl, Nat.le_of_ble_eq_true rfl⟩) (va_recv (q0 := 0) hK hP rfl rfl) lm_bl_no (fun _ _ _ => trivial) hl.1 rfl rfl (Nat.le_of_ble_eq_true rfl) d_LazyMachine_begin_32 ⟨Nat.le_of_ble_eq_true rfl, Nat.le_of_ble_eq_true rfl⟩ (fun u32 H locs w32 hP hD hS => ?_)
  have w32 : u32 = ((x, 0, 0, 0, 0, (-1), vs, vf, vg), u4, u11, XM, YM) := w32
  subst w32
  have hP : va_P (dC, dI) classes (lz_W cA ad ((x, 0, 0, 0, 0, (-1), vs, vf, vg), u4, u11, XM, YM)) H := hP
  have hD : va_D A (lz_W cA ad ((x, 0, 0, 0, 0, (-1), vs, vf, vg), u4, u11, XM, YM)) := hD
  refine lm_rv hx hb hr hlocks ((x, 0, 0, 0, 0, (-1), vs, vf, vg), u4, u11, XM, YM) ?_ hP hK hD hS d_LazyMachine_begin_35
  subst w4 w11; rfl
set_option maxHeartbeats 4000000 in
set_option maxRecDepth 100000 in
theorem c_LazyMachine_markRoots (l : Launch) (dC : Nat → ClassId) (dI : Nat → Nat → Nat) (cA : ClassId)  (ad : Nat → Nat) (sz : Nat) (M : ZMS)  (hi : ma_lo M) : Met l y_LazyMachine_markRoots w_LazyMachine_markRoots ({ frames := 2, cells := 0, slots := 0, locals := 44 } : Room) (va_Pc [.ref (ad 0)] (lm_pre (dC, dI) classes [(cA, .int)] (lz_W cA ad M) sz lm_no)) (va_Qv (fun (u : ZMS) => u = ma_setH M (ma_roots M)) (fun u => lm_at (dC, dI) classes [(cA, .int)] (va_A (lz_W cA ad M) sz) (lz_W cA ad u)) (va_A (lz_W cA ad M) sz)) 0 0 (va_A (lz_W cA ad M) sz) := by
  obtain ⟨⟨ss, sp, fo, ba, no, en, vs, vf, vg⟩, SM, PM, XM, YM⟩ := M
  refine lm_met (fun A => va_Qv (fun (u : ZMS) => u = ma_setH ((ss, sp, fo, ba, no, en, vs, vf, vg), SM, PM, XM, YM) (ma_roots ((ss, sp, fo, ba, no, en, vs, vf, vg), SM, PM, XM, YM))) (fun u => lm_at (dC, dI) classes [(cA, .int)] A (lz_W cA ad u)) A) (by decide) rfl (Nat.le_of_ble_eq_true rfl) ?_
  intro p e s m below meth c A hx hb hr hts hown hlocks hname hml hK hP hD hA hE hsz hAe hS ls hl
  replace hl : lv_has ls 1 [(0, .ref (ad 0))] := hl
  clear hAe hsz
  refine lv_aload_n hx hb d_LazyMachine_markRoots_0 rfl (lv_at hl 0 rfl) ?_
  refine va_get (D := (dC, dI)) (ci := 0) (v := .ref (ad 1)) (C := R_LazyMachine) (T := F_LazyMachine) (N := 13) hx hb hts (fun q hq => List.mem_cons_of_mem _ (i_LazyMachine q hq)) hown hK hP 0 rfl rfl 0 (by decide) (hts _ (List.mem_cons_of_mem _ m_2_7)) (fun _ h9 => h9) rfl d_LazyMachine_markRoots_1 ?_
  refine lm_vv (b := ad 1) (As := []) (rest := []) (wr := (ma_W cA ad (ss, sp, fo, ba, no, en, vs, vf, vg)) ++ (pl_W cA (fun k => ad (k + 8)) PM) ++ (tm_W cA (fun k => ad (k + 12)) XM) ++ (tm_W cA (fun k => ad (k + 19)) YM)) ⟨hx, hb, hml, hown, hts⟩ hK hP hD hS hA [1, 2, 3, 4, 5, 6, 7] [0, 8, 9, 10, 11, 12, 13, 14, 15, 16, 17, 18, 19, 20, 21, 22, 23, 24, 25] rfl rfl (by decide) (by decide) (by decide) (c_Heap_beginMarks l dC dI cA (fun k => ad (k + 1)) _ SM  ) (cwV 0 hts (lm_gV m_5_3 m_3_22 m_3_23 m_0_2 m_4_0) rfl rfl rfl (by decide +kernel) ⟨Nat.le_of_ble_eq_true rfl, Nat.le_of_ble_eq_true rfl⟩) (va_recv (q0 := 1) hK hP rfl rfl) lm_bl_no (fun _ _ _ => trivial) hl.1 rfl rfl (Nat.le_of_ble_eq_true rfl) d_LazyMachine_markRoots_4 ⟨Nat.le_of_ble_eq_true rfl, Nat.le_of_ble_eq_true rfl⟩ (fun u4 H locs w4 hP hD hS => ?_)
  have hP : va_P (dC, dI) classes (lz_W cA ad ((ss, sp, fo, ba, no, en, vs, vf, vg), u4, PM, XM, YM)) H := hP.sub [0, 19, 20, 21, 22, 23, 24, 25, 1, 2, 3, 4, 5, 6, 7, 8, 9, 10, 11, 12, 13, 14, 15, 16, 17, 18] rfl
  have hD : va_D A (lz_W cA ad ((ss, sp, fo, ba, no, en, vs, vf, vg), u4, PM, XM, YM)) := hD.sub [0, 19, 20, 21, 22, 23, 24, 25, 1, 2, 3, 4, 5, 6, 7, 8, 9, 10, 11, 12, 13, 14, 15, 16, 17, 18] (by decide) rfl
  refine lv_aload_n hx hb d_LazyMachine_markRoots_7 rfl (lv_at hl 0 rfl) ?_
  refine va_get (D := (dC, dI)) (ci := 0) (v := .int ba) (C := R_LazyMachine) (T := F_LazyMachine) (N := 13) hx hb hts (fun q hq => List.mem_cons_of_mem _ (i_LazyMachine q hq)) hown hK hP 0 rfl rfl 7 (by decide) (hts _ (List.mem_cons_of_mem _ m_2_14)) (fun _ h9 => h9) rfl d_LazyMachine_markRoots_8 ?_
  refine lv_if_eq hx hb d_LazyMachine_markRoots_11 rfl (fun h11 => ?_) (fun h11 => ?_)
  · refine lv_aload_n hx hb d_LazyMachine_markRoots_36 rfl (lv_at hl 0 rfl) ?_
    refine va_get (D := (dC, dI)) (ci := 0) (v := .ref (ad 1)) (C := R_LazyMachine) (T := F_LazyMachine) (N := 13) hx hb hts (fun q hq => List.mem_cons_of_mem _ (i_LazyMachine q hq)) hown hK hP 0 rfl rfl 0 (by decide) (hts _ (List.mem_cons_of_mem _ m_2_7)) (fun _ h9 => h9) rfl d_LazyMachine_markRoots_37 ?_
    refine lv_aload_n hx hb d_LazyMachine_markRoots_40 rfl (lv_at hl 0 rfl) ?_
    refine va_get (D := (dC, dI)) (ci := 0) (v := .int en) (C := R_LazyMachine) (T := F_LazyMachine) (N := 13) hx hb hts (fun q hq => List.mem_cons_of_mem _ (i_LazyMachine q hq)) hown hK hP 0 rfl rfl 9 (by decide) (hts _ (List.mem_cons_of_mem _ m_2_16)) (fun _ h9 => h9) rfl d_LazyMachine_markRoots_41 ?_
    refine lm_vv (b := ad 1) (As := [.int en]) (rest := []) (wr := (ma_W cA ad (ss, sp, fo, ba, no, en, vs, vf, vg)) ++ (pl_W cA (fun k => ad (k + 8)) PM) ++ (tm_W cA (fun k => ad (k + 12)) XM) ++ (tm_W cA (fun k => ad (k + 19)) YM)) ⟨hx, hb, hml, hown, hts⟩ hK hP hD hS hA [1, 2, 3, 4, 5, 6, 7] [0, 8, 9, 10, 11, 12, 13, 14, 15, 16, 17, 18, 19, 20, 21, 22, 23, 24, 25] rfl rfl (by decide) (by decide) (by decide) (c_Heap_reach l dC dI cA (fun k => ad (k + 1)) _ u4 en (by exact hi.2.2.2.2.1 h11) (by rw [w4]; exact hp_mk_begin _)) (cwV 1 hts (lm_gV m_5_12 m_5_9 m_5_10 m_0_2 m_5_11) rfl rfl rfl (by decide +kernel) ⟨Nat.le_of_ble_eq_true rfl, Nat.le_of_ble_eq_true rfl⟩) (va_recv (q0 := 1) hK hP rfl rfl) lm_bl_no (fun _ _ _ => trivial) hl.1 rfl rfl (Nat.le_of_ble_eq_true rfl) d_LazyMachine_markRoots_44 ⟨Nat.le_of_ble_eq_true rfl, Nat.le_of_ble_eq_true rfl⟩ (fun u44 H locs w44 hP hD hS => ?_)
    have hP : va_P (dC, dI) classes (lz_W cA ad ((ss, sp, fo, ba, no, en, vs, vf, vg), u44, PM, XM, YM)) H := hP.sub [0, 19, 20, 21, 22, 23, 24, 25, 1, 2, 3, 4, 5, 6, 7, 8, 9, 10, 11, 12, 13, 14, 15, 16, 17, 18] rfl
    have hD : va_D A (lz_W cA ad ((ss, sp, fo, ba, no, en, vs, vf, vg), u44, PM, XM, YM)) := hD.sub [0, 19, 20, 21, 22, 23, 24, 25, 1, 2, 3, 4, 5, 6, 7, 8, 9, 10, 11, 12, 13, 14, 15, 16, 17, 18] (by decide) rfl
    refine lv_aload_n hx hb d_LazyMachine_markRoots_47 rfl (lv_at hl 0 rfl) ?_
    refine va_get (D := (dC, dI)) (ci := 0) (v := .ref (ad 8)) (C := R_LazyMachine) (T := F_LazyMachine) (N := 13) hx hb hts (fun q hq => List.mem_cons_of_mem _ (i_LazyMachine q hq)) hown hK hP 0 rfl rfl 1 (by decide) (hts _ (List.mem_cons_of_mem _ m_2_8)) (fun _ h9 => h9) rfl d_LazyMachine_markRoots_48 ?_
    refine lv_aload_n hx hb d_LazyMachine_markRoots_51 rfl (lv_at hl 0 rfl) ?_
    refine va_get (D := (dC, dI)) (ci := 0) (v := .ref (ad 1)) (C := R_LazyMachine) (T := F_LazyMachine) (N := 13) hx hb hts (fun q hq => List.mem_cons_of_mem _ (i_LazyMachine q hq)) hown hK hP 0 rfl rfl 0 (by decide) (hts _ (List.mem_cons_of_mem _ m_2_7)) (fun _ h9 => h9) rfl d_LazyMachine_markRoots_52 ?_
    refine lm_vv (b := ad 8) (As := [.ref (ad 1)]) (rest := []) (wr := (ma_W cA ad (ss, sp, fo, ba, no, en, vs, vf, vg)) ++ (tm_W cA (fun k => ad (k + 12)) XM) ++ (tm_W cA (fun k => ad (k + 19)) YM)) ⟨hx, hb, hml, hown, hts⟩ hK hP hD hS hA [8, 9, 10, 11, 1, 2, 3, 4, 5, 6, 7] [0, 12, 13, 14, 15, 16, 17, 18, 19, 20, 21, 22, 23, 24, 25] rfl rfl (by decide) (by decide) (by decide) (c_Pile_reachAll l dC dI cA (fun k => ad (k + 8)) (fun k => ad (k + 1)) _ PM u44  (by exact hi.2.2.1) (by exact hi.2.2.2.1) (by first | (rw [w30, w4]; exact hp_mk_from (hp_mk_begin _) (hi.2.2.2.2.2 h11).1 (hi.2.2.2.2.2 h11).2) | (rw [w44, w4]; exact hp_mk_reach (hp_mk_begin _) (hi.2.2.2.2.1 h11)))) (cwV 1 hts (lm_gV m_5_13 m_5_14 m_5_15 m_0_3 m_5_16) rfl rfl rfl (by decide +kernel) ⟨Nat.le_of_ble_eq_true rfl, Nat.le_of_ble_eq_true rfl⟩) (va_recv (q0 := 8) hK hP rfl rfl) lm_bl_no (fun _ _ _ => trivial) hl.1 rfl rfl (Nat.le_of_ble_eq_true rfl) d_LazyMachine_markRoots_55 ⟨Nat.le_of_ble_eq_true rfl, Nat.le_of_ble_eq_true rfl⟩ (fun u55 H locs w55 hP hD hS => ?_)
    have hP : va_P (dC, dI) classes (lz_W cA ad ((ss, sp, fo, ba, no, en, vs, vf, vg), u55, PM, XM, YM)) H := hP.sub [0, 19, 20, 21, 22, 23, 24, 25, 15, 16, 17, 18, 1, 2, 3, 4, 5, 6, 7, 8, 9, 10, 11, 12, 13, 14] rfl
    have hD : va_D A (lz_W cA ad ((ss, sp, fo, ba, no, en, vs, vf, vg), u55, PM, XM, YM)) := hD.sub [0, 19, 20, 21, 22, 23, 24, 25, 15, 16, 17, 18, 1, 2, 3, 4, 5, 6, 7, 8, 9, 10, 11, 12, 13, 14] (by decide) rfl
    refine lm_rv hx hb hr hlocks ((ss, sp, fo, ba, no, en, vs, vf, vg), u55, PM, XM, YM) ?_ hP hK hD hS d_LazyMachine_markRoots_58
    subst w4 w44 w55; unfold ma_setH ma_roots; first | rw [if_pos h11] | rw [if_neg h11]
  · refine lv_aload_n hx hb d_LazyMachine_markRoots_14 rfl (lv_at hl 0 rfl) ?_
    refine va_get (D := (dC, dI)) (ci := 0) (v := .ref (ad 1)) (C := R_LazyMachine) (T := F_LazyMachine) (N := 13) hx hb hts (fun q hq => List.mem_cons_of_mem _ (i_LazyMachine q hq)) hown hK hP 0 rfl rfl 0 (by decide) (hts _ (List.mem_cons_of_mem _ m_2_7)) (fun _ h9 => h9) rfl d_LazyMachine_markRoots_15 ?_
    refine lv_aload_n hx hb d_LazyMachine_markRoots_18 rfl (lv_at hl 0 rfl) ?_
    refine va_get (D := (dC, dI)) (ci := 0) (v := .int vs) (C := R_LazyMachine) (T := F_LazyMachine) (N := 13) hx hb hts (fun q hq => List.mem_cons_of_mem _ (i_LazyMachine q hq)) hown hK hP 0 rfl rfl 10 (by decide) (hts _ (List.mem_cons_of_mem _ m_2_17)) (fun _ h9 => h9) rfl d_LazyMachine_markRoots_19 ?_
    refine lv_aload_n hx hb d_LazyMachine_markRoots_22 rfl (lv_at hl 0 rfl) ?_
    refine va_get (D := (dC, dI)) (ci := 0) (v := .int vf) (C := R_LazyMachine) (T := F_LazyMachine) (N := 13) hx hb hts (fun q hq => List.mem_cons_of_mem _ (i_LazyMachine q hq)) hown hK hP 0 rfl rfl 11 (by decide) (hts _ (List.mem_cons_of_mem _ m_2_18)) (fun _ h9 => h9) rfl d_LazyMachine_markRoots_23 ?_
    refine lv_aload_n hx hb d_LazyMachine_markRoots_26 rfl (lv_at hl 0 rfl) ?_
    refine va_get (D := (dC, dI)) (ci := 0) (v := .int vg) (C := R_LazyMachine) (T := F_LazyMachine) (N := 13) hx hb hts (fun q hq => List.mem_cons_of_mem _ (i_LazyMachine q hq)) hown hK hP 0 rfl rfl 12 (by decide) (hts _ (List.mem_cons_of_mem _ m_2_19)) (fun _ h9 => h9) rfl d_LazyMachine_markRoots_27 ?_
    refine lm_vv (b := ad 1) (As := [.int vs, .int vf, .int vg]) (rest := []) (wr := (ma_W cA ad (ss, sp, fo, ba, no, en, vs, vf, vg)) ++ (pl_W cA (fun k => ad (k + 8)) PM) ++ (tm_W cA (fun k => ad (k + 12)) XM) ++ (tm_W cA (fun k => ad (k + 19)) YM)) ⟨hx, hb, hml, hown, hts⟩ hK hP hD hS hA [1, 2, 3, 4, 5, 6, 7] [0, 8, 9, 10, 11, 12, 13, 14, 15, 16, 17, 18, 19, 20, 21, 22, 23, 24, 25] rfl rfl (by decide) (by decide) (by decide) (c_Heap_reachFrom l dC dI cA (fun k => ad (k + 1)) _ u4 vs vf vg (by exact (hi.2.2.2.2.2 h11).1) (by exact (hi.2.2.2.2.2 h11).2) (by rw [w4]; exact hp_mk_begin _)) (cwV 3 hts (lm_gV m_5_4 m_5_5 m_5_6 m_0_2 m_5_7) rfl rfl rfl (by decide +kernel) ⟨Nat.le_of_ble_eq_true rfl, Nat.le_of_ble_eq_true rfl⟩) (va_recv (q0 := 1) hK hP rfl rfl) lm_bl_no (fun _ _ _ => trivial) hl.1 rfl rfl (Nat.le_of_ble_eq_true rfl) d_LazyMachine_markRoots_30 ⟨Nat.le_of_ble_eq_true rfl, Nat.le_of_ble_eq_true rfl⟩ (fun u30 H locs w30 hP hD hS => ?_)
    have hP : va_P (dC, dI) classes (lz_W cA ad ((ss, sp, fo, ba, no, en, vs, vf, vg), u30, PM, XM, YM)) H := hP.sub [0, 19, 20, 21, 22, 23, 24, 25, 1, 2, 3, 4, 5, 6, 7, 8, 9, 10, 11, 12, 13, 14, 15, 16, 17, 18] rfl
    have hD : va_D A (lz_W cA ad ((ss, sp, fo, ba, no, en, vs, vf, vg), u30, PM, XM, YM)) := hD.sub [0, 19, 20, 21, 22, 23, 24, 25, 1, 2, 3, 4, 5, 6, 7, 8, 9, 10, 11, 12, 13, 14, 15, 16, 17, 18] (by decide) rfl
    refine lv_goto hx hb d_LazyMachine_markRoots_33 rfl ?_
    refine lv_aload_n hx hb d_LazyMachine_markRoots_47 rfl (lv_at hl 0 rfl) ?_
    refine va_get (D := (dC, dI)) (ci := 0) (v := .ref (ad 8)) (C := R_LazyMachine) (T := F_LazyMachine) (N := 13) hx hb hts (fun q hq => List.mem_cons_of_mem _ (i_LazyMachine q hq)) hown hK hP 0 rfl rfl 1 (by decide) (hts _ (List.mem_cons_of_mem _ m_2_8)) (fun _ h9 => h9) rfl d_LazyMachine_markRoots_48 ?_
    refine lv_aload_n hx hb d_LazyMachine_markRoots_51 rfl (lv_at hl 0 rfl) ?_
    refine va_get (D := (dC, dI)) (ci := 0) (v := .ref (ad 1)) (C := R_LazyMachine) (T := F_LazyMachine) (N := 13) hx hb hts (fun q hq => List.mem_cons_of_mem _ (i_LazyMachine q hq)) hown hK hP 0 rfl rfl 0 (by decide) (hts _ (List.mem_cons_of_mem _ m_2_7)) (fun _ h9 => h9) rfl d_LazyMachine_markRoots_52 ?_
    refine lm_vv (b := ad 8) (As := [.ref (ad 1)]) (rest := []) (wr := (ma_W cA ad (ss, sp, fo, ba, no, en, vs, vf, vg)) ++ (tm_W cA (fun k => ad (k + 12)) XM) ++ (tm_W cA (fun k => ad (k + 19)) YM)) ⟨hx, hb, hml, hown, hts⟩ hK hP hD hS hA [8, 9, 10, 11, 1, 2, 3, 4, 5, 6, 7] [0, 12, 13, 14, 15, 16, 17, 18, 19, 20, 21, 22, 23, 24, 25] rfl rfl (by decide) (by decide) (by decide) (c_Pile_reachAll l dC dI cA (fun k => ad (k + 8)) (fun k => ad (k + 1)) _ PM u30  (by exact hi.2.2.1) (by exact hi.2.2.2.1) (by first | (rw [w30, w4]; exact hp_mk_from (hp_mk_begin _) (hi.2.2.2.2.2 h11).1 (hi.2.2.2.2.2 h11).2) | (rw [w44, w4]; exact hp_mk_reach (hp_mk_begin _) (hi.2.2.2.2.1 h11)))) (cwV 1 hts (lm_gV m_5_13 m_5_14 m_5_15 m_0_3 m_5_16) rfl rfl rfl (by decide +kernel) ⟨Nat.le_of_ble_eq_true rfl, Nat.le_of_ble_eq_true rfl⟩) (va_recv (q0 := 8) hK hP rfl rfl) lm_bl_no (fun _ _ _ => trivial) hl.1 rfl rfl (Nat.le_of_ble_eq_true rfl) d_LazyMachine_markRoots_55 ⟨Nat.le_of_ble_eq_true rfl, Nat.le_of_ble_eq_true rfl⟩ (fun u55 H locs w55 hP hD hS => ?_)
    have hP : va_P (dC, dI) classes (lz_W cA ad ((ss, sp, fo, ba, no, en, vs, vf, vg), u55, PM, XM, YM)) H := hP.sub [0, 19, 20, 21, 22, 23, 24, 25, 15, 16, 17, 18, 1, 2, 3, 4, 5, 6, 7, 8, 9, 10, 11, 12, 13, 14] rfl
    have hD : va_D A (lz_W cA ad ((ss, sp, fo, ba, no, en, vs, vf, vg), u55, PM, XM, YM)) := hD.sub [0, 19, 20, 21, 22, 23, 24, 25, 15, 16, 17, 18, 1, 2, 3, 4, 5, 6, 7, 8, 9, 10, 11, 12, 13, 14] (by decide) rfl
    refine lm_rv hx hb hr hlocks ((ss, sp, fo, ba, no, en, vs, vf, vg), u55, PM, XM, YM) ?_ hP hK hD hS d_LazyMachine_markRoots_58
    subst w4 w30 w55; unfold ma_setH ma_roots; first | rw [if_pos h11] | rw [if_neg h11]
set_option maxHeartbeats 4000000 in
set_option maxRecDepth 100000 in
theorem c_LazyMachine_hasRoomFor (l : Launch) (dC : Nat → ClassId) (dI : Nat → Nat → Nat) (cA : ClassId)  (ad : Nat → Nat) (sz : Nat) (M : ZMS) (x : Int32) (hi : ma_lo M) : Met l y_LazyMachine_hasRoomFor w_LazyMachine_hasRoomFor ({ frames := 3, cells := 0, slots := 0, locals := 66 } : Room) (va_Pc [.ref (ad 0), .int x] (lm_pre (dC, dI) classes [(cA, .int)] (lz_W cA ad M) sz lm_no)) (va_Qi (fun (r : Int32) (u : ZMS) => r = (ma_room M x).1 ∧ u = (ma_room M x).2) (fun u => lm_at (dC, dI) classes [(cA, .int)] (va_A (lz_W cA ad M) sz) (lz_W cA ad u)) (va_A (lz_W cA ad M) sz)) 0 0 (va_A (lz_W cA ad M) sz) := by
  obtain ⟨⟨ss, sp, fo, ba, no, en, vs, vf, vg⟩, SM, PM, XM, YM⟩ := M
  refine lm_met (fun A => va_Qi (fun (r : Int32) (u : ZMS) => r = (ma_room ((ss, sp, fo, ba, no, en, vs, vf, vg), SM, PM, XM, YM) x).1 ∧ u = (ma_room ((ss, sp, fo, ba, no, en, vs, vf, vg), SM, PM, XM, YM) x).2) (fun u => lm_at (dC, dI) classes [(cA, .int)] A (lz_W cA ad u)) A) (by decide) rfl (Nat.le_of_ble_eq_true rfl) ?_
  intro p e s m below meth c A hx hb hr hts hown hlocks hname hml hK hP hD hA hE hsz hAe hS ls hl
  replace hl : lv_has ls 2 [(0, .ref (ad 0)), (1, .int x)] := hl
  clear hAe hsz
  refine lv_aload_n hx hb d_LazyMachine_hasRoomFor_0 rfl (lv_at hl 0 rfl) ?_
  refine va_get (D := (dC, dI)) (ci := 0) (v := .ref (ad 1)) (C := R_LazyMachine) (T := F_LazyMachine) (N := 13) hx hb hts (fun q hq => List.mem_cons_of_mem _ (i_LazyMachine q hq)) hown hK hP 0 rfl rfl 0 (by decide) (hts _ (List.mem_cons_of_mem _ m_2_7)) (fun _ h9 => h9) rfl d_LazyMachine_hasRoomFor_1 ?_
  refine lm_vi (b := ad 1) (As := []) (rest := []) (wr := (ma_W cA ad (ss, sp, fo, ba, no, en, vs, vf, vg)) ++ (pl_W cA (fun k => ad (k + 8)) PM) ++ (tm_W cA (fun k => ad (k + 12)) XM) ++ (tm_W cA (fun k => ad (k + 19)) YM)) ⟨hx, hb, hml, hown, hts⟩ hK hP hD hS hA [1, 2, 3, 4, 5, 6, 7] [0, 8, 9, 10, 11, 12, 13, 14, 15, 16, 17, 18, 19, 20, 21, 22, 23, 24, 25] rfl rfl (by decide) (by decide) (by decide) (c_Heap_free l dC dI cA (fun k => ad (k + 1)) _ SM  ) (cwV 0 hts (lm_gV m_8_10 m_8_11 m_8_12 m_0_2 m_8_13) rfl rfl rfl (by decide +kernel) ⟨Nat.le_of_ble_eq_true rfl, Nat.le_of_ble_eq_true rfl⟩) (va_recv (q0 := 1) hK hP rfl rfl) lm_bl_no (fun _ _ _ => trivial) hl.1 rfl rfl (Nat.le_of_ble_eq_true rfl) d_LazyMachine_hasRoomFor_4 ⟨Nat.le_of_ble_eq_true rfl, Nat.le_of_ble_eq_true rfl⟩ (fun r4 u4 H locs w4 hP hD hS => ?_)
  obtain ⟨e_r4, w4⟩ := w4
  replace e_r4 := e_r4.symm
  subst e_r4
  replace w4 := w4.symm
  subst w4
  have hP : va_P (dC, dI) classes (lz_W cA ad ((ss, sp, fo, ba, no, en, vs, vf, vg), SM, PM, XM, YM)) H := hP.sub [0, 19, 20, 21, 22, 23, 24, 25, 1, 2, 3, 4, 5, 6, 7, 8, 9, 10, 11, 12, 13, 14, 15, 16, 17, 18] rfl
  have hD : va_D A (lz_W cA ad ((ss, sp, fo, ba, no, en, vs, vf, vg), SM, PM, XM, YM)) := hD.sub [0, 19, 20, 21, 22, 23, 24, 25, 1, 2, 3, 4, 5, 6, 7, 8, 9, 10, 11, 12, 13, 14, 15, 16, 17, 18] (by decide) rfl
  refine lv_iload_n hx hb d_LazyMachine_hasRoomFor_7 rfl (lv_at hl 1 rfl) ?_
  refine lv_icmp_ge hx hb d_LazyMachine_hasRoomFor_8 rfl (fun h8 => ?_) (fun h8 => ?_)
  · refine lv_aload_n hx hb d_LazyMachine_hasRoomFor_30 rfl (lv_at hl 0 rfl) ?_
    refine va_get (D := (dC, dI)) (ci := 0) (v := .ref (ad 1)) (C := R_LazyMachine) (T := F_LazyMachine) (N := 13) hx hb hts (fun q hq => List.mem_cons_of_mem _ (i_LazyMachine q hq)) hown hK hP 0 rfl rfl 0 (by decide) (hts _ (List.mem_cons_of_mem _ m_2_7)) (fun _ h9 => h9) rfl d_LazyMachine_hasRoomFor_31 ?_
    refine lm_vi (b := ad 1) (As := []) (rest := []) (wr := (ma_W cA ad (ss, sp, fo, ba, no, en, vs, vf, vg)) ++ (pl_W cA (fun k => ad (k + 8)) PM) ++ (tm_W cA (fun k => ad (k + 12)) XM) ++ (tm_W cA (fun k => ad (k + 19)) YM)) ⟨hx, hb, hml, hown, hts⟩ hK hP hD hS hA [1, 2, 3, 4, 5, 6, 7] [0, 8, 9, 10, 11, 12, 13, 14, 15, 16, 17, 18, 19, 20, 21, 22, 23, 24, 25] rfl rfl (by decide) (by decide) (by decide) (c_Heap_free l dC dI cA (fun k => ad (k + 1)) _ SM  ) (cwV 0 hts (lm_gV m_8_10 m_8_11 m_8_12 m_0_2 m_8_13) rfl rfl rfl (by decide +kernel) ⟨Nat.le_of_ble_eq_true rfl, Nat.le_of_ble_eq_true rfl⟩) (va_recv (q0 := 1) hK hP rfl rfl) lm_bl_no (fun _ _ _ => trivial) hl.1 rfl rfl (Nat.le_of_ble_eq_true rfl) d_LazyMachine_hasRoomFor_34 ⟨Nat.le_of_ble_eq_true rfl, Nat.le_of_ble_eq_true rfl⟩ (fun r34 u34 H locs w34 hP hD hS => ?_)
    obtain ⟨e_r34, w34⟩ := w34
    replace e_r34 := e_r34.symm
    subst e_r34
    replace w34 := w34.symm
    subst w34
    have hP : va_P (dC, dI) classes (lz_W cA ad ((ss, sp, fo, ba, no, en, vs, vf, vg), SM, PM, XM, YM)) H := hP.sub [0, 19, 20, 21, 22, 23, 24, 25, 1, 2, 3, 4, 5, 6, 7, 8, 9, 10, 11, 12, 13, 14, 15, 16, 17, 18] rfl
    have hD : va_D A (lz_W cA ad ((ss, sp, fo, ba, no, en, vs, vf, vg), SM, PM, XM, YM)) := hD.sub [0, 19, 20, 21, 22, 23, 24, 25, 1, 2, 3, 4, 5, 6, 7, 8, 9, 10, 11, 12, 13, 14, 15, 16, 17, 18] (by decide) rfl
    refine lv_iload_n hx hb d_LazyMachine_hasRoomFor_37 rfl (lv_at hl 1 rfl) ?_
    refine lv_icmp_lt hx hb d_LazyMachine_hasRoomFor_38 rfl (fun h38 => ?_) (fun h38 => ?_)
    · refine lv_iconst (v := 0) hx hb d_LazyMachine_hasRoomFor_45 (by decide) ?_
      refine lm_rz (v := 0) hx hb hr hlocks (by decide) ((ss, sp, fo, ba, no, en, vs, vf, vg), SM, PM, XM, YM) ?_ hP hK hD hS d_LazyMachine_hasRoomFor_46
      unfold ma_room ma_roomM; first | (rw [if_pos h8]; first | (rw [if_pos h38]; exact ⟨rfl, rfl⟩) | (rw [if_neg h38]; exact ⟨rfl, rfl⟩)) | (rw [if_neg h8]; first | (rw [if_pos (show h_fr (m_H (ma_gc ((ss, sp, fo, ba, no, en, vs, vf, vg), SM, PM, XM, YM))) < x from h38)]; exact ⟨rfl, rfl⟩) | (rw [if_neg (show ¬ h_fr (m_H (ma_gc ((ss, sp, fo, ba, no, en, vs, vf, vg), SM, PM, XM, YM))) < x from h38)]; exact ⟨rfl, rfl⟩))
    · refine lv_iconst (v := 1) hx hb d_LazyMachine_hasRoomFor_41 (by decide) ?_
      refine lv_goto hx hb d_LazyMachine_hasRoomFor_42 rfl ?_
      refine lm_rz (v := 1) hx hb hr hlocks (by decide) ((ss, sp, fo, ba, no, en, vs, vf, vg), SM, PM, XM, YM) ?_ hP hK hD hS d_LazyMachine_hasRoomFor_46
      unfold ma_room ma_roomM; first | (rw [if_pos h8]; first | (rw [if_pos h38]; exact ⟨rfl, rfl⟩) | (rw [if_neg h38]; exact ⟨rfl, rfl⟩)) | (rw [if_neg h8]; first | (rw [if_pos (show h_fr (m_H (ma_gc ((ss, sp, fo, ba, no, en, vs, vf, vg), SM, PM, XM, YM))) < x from h38)]; exact ⟨rfl, rfl⟩) | (rw [if_neg (show ¬ h_fr (m_H (ma_gc ((ss, sp, fo, ba, no, en, vs, vf, vg), SM, PM, XM, YM))) < x from h38)]; exact ⟨rfl, rfl⟩))
  · refine lv_aload_n hx hb d_LazyMachine_hasRoomFor_11 rfl (lv_at hl 0 rfl) ?_
    refine lm_vv (b := ad 0) (As := []) (rest := []) (wr := ([] : va_W)) ⟨hx, hb, hml, hown, hts⟩ hK hP hD hS hA [0, 1, 2, 3, 4, 5, 6, 7, 8, 9, 10, 11, 12, 13, 14, 15, 16, 17, 18, 19, 20, 21, 22, 23, 24, 25] [] rfl rfl (by decide) (by decide) (by decide) (c_LazyMachine_markRoots l dC dI cA ad _ ((ss, sp, fo, ba, no, en, vs, vf, vg), SM, PM, XM, YM)  (by exact hi)) (cwV 0 hts (lm_gV m_5_0 m_5_1 m_19_7 m_0_1 m_5_2) rfl rfl rfl (by decide +kernel) ⟨Nat.le_of_ble_eq_true rfl, Nat.le_of_ble_eq_true rfl⟩) (va_recv (q0 := 0) hK hP rfl rfl) lm_bl_no (fun _ _ _ => trivial) hl.1 rfl rfl (Nat.le_of_ble_eq_true rfl) d_LazyMachine_hasRoomFor_12 ⟨Nat.le_of_ble_eq_true rfl, Nat.le_of_ble_eq_true rfl⟩ (fun u12 H locs w12 hP hD hS => ?_)
    have hP : va_P (dC, dI) classes (lz_W cA ad u12) H := hP
    have hD : va_D A (lz_W cA ad u12) := hD
    refine lv_aload_n hx hb d_LazyMachine_hasRoomFor_15 rfl (lv_at hl 0 rfl) ?_
    refine va_get (D := (dC, dI)) (ci := 0) (v := .ref (ad 1)) (C := R_LazyMachine) (T := F_LazyMachine) (N := 13) hx hb hts (fun q hq => List.mem_cons_of_mem _ (i_LazyMachine q hq)) hown hK hP 0 rfl rfl 0 (by decide) (hts _ (List.mem_cons_of_mem _ m_2_7)) (fun _ h9 => h9) rfl d_LazyMachine_hasRoomFor_16 ?_
    refine lm_vi (b := ad 1) (As := []) (rest := []) (wr := (ma_W cA ad u12.1) ++ (pl_W cA (fun k => ad (k + 8)) u12.2.2.1) ++ (tm_W cA (fun k => ad (k + 12)) u12.2.2.2.1) ++ (tm_W cA (fun k => ad (k + 19)) u12.2.2.2.2)) ⟨hx, hb, hml, hown, hts⟩ hK hP hD hS hA [1, 2, 3, 4, 5, 6, 7] [0, 8, 9, 10, 11, 12, 13, 14, 15, 16, 17, 18, 19, 20, 21, 22, 23, 24, 25] rfl rfl (by decide) (by decide) (by decide) (c_Heap_spreadMarks l dC dI cA (fun k => ad (k + 1)) _ u12.2.1  (by rw [w12]; exact ma_mk_roots hi) (by rw [w12]; exact hp_ok_eq (ma_eq_roots _) hi.1)) (cwV 0 hts (lm_gV m_5_18 m_5_19 m_5_20 m_0_2 m_5_21) rfl rfl rfl (by decide +kernel) ⟨Nat.le_of_ble_eq_true rfl, Nat.le_of_ble_eq_true rfl⟩) (va_recv (q0 := 1) hK hP rfl rfl) lm_bl_no (fun _ _ _ => trivial) hl.1 rfl rfl (Nat.le_of_ble_eq_true rfl) d_LazyMachine_hasRoomFor_19 ⟨Nat.le_of_ble_eq_true rfl, Nat.le_of_ble_eq_true rfl⟩ (fun r19 u19 H locs w19 hP hD hS => ?_)
    obtain ⟨e_r19, w19⟩ := w19
    have hP : va_P (dC, dI) classes (lz_W cA ad (u12.1, u19, u12.2.2.1, u12.2.2.2.1, u12.2.2.2.2)) H := hP.sub [0, 19, 20, 21, 22, 23, 24, 25, 1, 2, 3, 4, 5, 6, 7, 8, 9, 10, 11, 12, 13, 14, 15, 16, 17, 18] rfl
    have hD : va_D A (lz_W cA ad (u12.1, u19, u12.2.2.1, u12.2.2.2.1, u12.2.2.2.2)) := hD.sub [0, 19, 20, 21, 22, 23, 24, 25, 1, 2, 3, 4, 5, 6, 7, 8, 9, 10, 11, 12, 13, 14, 15, 16, 17, 18] (by decide) rfl
    refine lv_pop hx hb d_LazyMachine_hasRoomFor_22 rfl ?_
    refine lv_aload_n hx hb d_LazyMachine_hasRoomFor_23 rfl (lv_at hl 0 rfl) ?_
    refine va_get (D := (dC, dI)) (ci := 0) (v := .ref (ad 1)) (C := R_LazyMachine) (T := F_LazyMachine) (N := 13) hx hb hts (fun q hq => List.mem_cons_of_mem _ (i_LazyMachine q hq)) hown hK hP 0 rfl rfl 0 (by decide) (hts _ (List.mem_cons_of_mem _ m_2_7)) (fun _ h9 => h9) rfl d_LazyMachine_hasRoomFor_24 ?_
    refine lm_vv (b := ad 1) (As := []) (rest := []) (wr := (ma_W cA ad u12.1) ++ (pl_W cA (fun k => ad (k + 8)) u12.2.2.1) ++ (tm_W cA (fun k => ad (k + 12)) u12.2.2.2.1) ++ (tm_W cA (fun k => ad (k + 19)) u12.2.2.2.2)) ⟨hx, hb, hml, hown, hts⟩ hK hP hD hS hA [1, 2, 3, 4, 5, 6, 7] [0, 8, 9, 10, 11, 12, 13, 14, 15, 16, 17, 18, 19, 20, 21, 22, 23, 24, 25] rfl rfl (by decide) (by decide) (by decide) (c_Heap_freeUnreached l dC dI cA (fun k => ad (k + 1)) _ u19  ) (cwV 0 hts (lm_gV m_8_14 m_4_2 m_4_3 m_0_2 m_4_4) rfl rfl rfl (by decide +kernel) ⟨Nat.le_of_ble_eq_true rfl, Nat.le_of_ble_eq_true rfl⟩) (va_recv (q0 := 1) hK hP rfl rfl) lm_bl_no (fun _ _ _ => trivial) hl.1 rfl rfl (Nat.le_of_ble_eq_true rfl) d_LazyMachine_hasRoomFor_27 ⟨Nat.le_of_ble_eq_true rfl, Nat.le_of_ble_eq_true rfl⟩ (fun u27 H locs w27 hP hD hS => ?_)
    have hP : va_P (dC, dI) classes (lz_W cA ad (u12.1, u27, u12.2.2.1, u12.2.2.2.1, u12.2.2.2.2)) H := hP.sub [0, 19, 20, 21, 22, 23, 24, 25, 1, 2, 3, 4, 5, 6, 7, 8, 9, 10, 11, 12, 13, 14, 15, 16, 17, 18] rfl
    have hD : va_D A (lz_W cA ad (u12.1, u27, u12.2.2.1, u12.2.2.2.1, u12.2.2.2.2)) := hD.sub [0, 19, 20, 21, 22, 23, 24, 25, 1, 2, 3, 4, 5, 6, 7, 8, 9, 10, 11, 12, 13, 14, 15, 16, 17, 18] (by decide) rfl
    refine lv_aload_n hx hb d_LazyMachine_hasRoomFor_30 rfl (lv_at hl 0 rfl) ?_
    refine va_get (D := (dC, dI)) (ci := 0) (v := .ref (ad 1)) (C := R_LazyMachine) (T := F_LazyMachine) (N := 13) hx hb hts (fun q hq => List.mem_cons_of_mem _ (i_LazyMachine q hq)) hown hK hP 0 rfl rfl 0 (by decide) (hts _ (List.mem_cons_of_mem _ m_2_7)) (fun _ h9 => h9) rfl d_LazyMachine_hasRoomFor_31 ?_
    refine lm_vi (b := ad 1) (As := []) (rest := []) (wr := (ma_W cA ad u12.1) ++ (pl_W cA (fun k => ad (k + 8)) u12.2.2.1) ++ (tm_W cA (fun k => ad (k + 12)) u12.2.2.2.1) ++ (tm_W cA (fun k => ad (k + 19)) u12.2.2.2.2)) ⟨hx, hb, hml, hown, hts⟩ hK hP hD hS hA [1, 2, 3, 4, 5, 6, 7] [0, 8, 9, 10, 11, 12, 13, 14, 15, 16, 17, 18, 19, 20, 21, 22, 23, 24, 25] rfl rfl (by decide) (by decide) (by decide) (c_Heap_free l dC dI cA (fun k => ad (k + 1)) _ u27  ) (cwV 0 hts (lm_gV m_8_10 m_8_11 m_8_12 m_0_2 m_8_13) rfl rfl rfl (by decide +kernel) ⟨Nat.le_of_ble_eq_true rfl, Nat.le_of_ble_eq_true rfl⟩) (va_recv (q0 := 1) hK hP rfl rfl) lm_bl_no (fun _ _ _ => trivial) hl.1 rfl rfl (Nat.le_of_ble_eq_true rfl) d_LazyMachine_hasRoomFor_34 ⟨Nat.le_of_ble_eq_true rfl, Nat.le_of_ble_eq_true rfl⟩ (fun r34 u34 H locs w34 hP hD hS => ?_)
    obtain ⟨e_r34, w34⟩ := w34
    replace e_r34 := e_r34.symm
    subst e_r34
    replace w34 := w34.symm
    subst w34
    have hP : va_P (dC, dI) classes (lz_W cA ad (u12.1, u27, u12.2.2.1, u12.2.2.2.1, u12.2.2.2.2)) H := hP.sub [0, 19, 20, 21, 22, 23, 24, 25, 1, 2, 3, 4, 5, 6, 7, 8, 9, 10, 11, 12, 13, 14, 15, 16, 17, 18] rfl
    have hD : va_D A (lz_W cA ad (u12.1, u27, u12.2.2.1, u12.2.2.2.1, u12.2.2.2.2)) := hD.sub [0, 19, 20, 21, 22, 23, 24, 25, 1, 2, 3, 4, 5, 6, 7, 8, 9, 10, 11, 12, 13, 14, 15, 16, 17, 18] (by decide) rfl
    refine lv_iload_n hx hb d_LazyMachine_hasRoomFor_37 rfl (lv_at hl 1 rfl) ?_
    refine lv_icmp_lt hx hb d_LazyMachine_hasRoomFor_38 rfl (fun h38 => ?_) (fun h38 => ?_)
    · refine lv_iconst (v := 0) hx hb d_LazyMachine_hasRoomFor_45 (by decide) ?_
      refine lm_rz (v := 0) hx hb hr hlocks (by decide) (u12.1, u27, u12.2.2.1, u12.2.2.2.1, u12.2.2.2.2) ?_ hP hK hD hS d_LazyMachine_hasRoomFor_46
      subst w12 e_r19 w19 w27; unfold ma_room ma_roomM; first | (rw [if_pos h8]; first | (rw [if_pos h38]; exact ⟨rfl, rfl⟩) | (rw [if_neg h38]; exact ⟨rfl, rfl⟩)) | (rw [if_neg h8]; first | (rw [if_pos (show h_fr (m_H (ma_gc ((ss, sp, fo, ba, no, en, vs, vf, vg), SM, PM, XM, YM))) < x from h38)]; exact ⟨rfl, rfl⟩) | (rw [if_neg (show ¬ h_fr (m_H (ma_gc ((ss, sp, fo, ba, no, en, vs, vf, vg), SM, PM, XM, YM))) < x from h38)]; exact ⟨rfl, rfl⟩))
    · refine lv_iconst (v := 1) hx hb d_LazyMachine_hasRoomFor_41 (by decide) ?_
      refine lv_goto hx hb d_LazyMachine_hasRoomFor_42 rfl ?_
      refine lm_rz (v := 1) hx hb hr hlocks (by decide) (u12.1, u27, u12.2.2.1, u12.2.2.2.1, u12.2.2.2.2) ?_ hP hK hD hS d_LazyMachine_hasRoomFor_46
      subst w12 e_r19 w19 w27; unfold ma_room ma_roomM; first | (rw [if_pos h8]; first | (rw [if_pos h38]; exact ⟨rfl, rfl⟩) | (rw [if_neg h38]; exact ⟨rfl, rfl⟩)) | (rw [if_neg h8]; first | (rw [if_pos (show h_fr (m_H (ma_gc ((ss, sp, fo, ba, no, en, vs, vf, vg), SM, PM, XM, YM))) < x from h38)]; exact ⟨rfl, rfl⟩) | (rw [if_neg (show ¬ h_fr (m_H (ma_gc ((ss, sp, fo, ba, no, en, vs, vf, vg), SM, PM, XM, YM))) < x from h38)]; exact ⟨rfl, rfl⟩))
set_option maxHeartbeats 4000000 in
set_option maxRecDepth 100000 in
theorem c_LazyMachine_cellsFor (l : Launch) (dC : Nat → ClassId) (dI : Nat → Nat → Nat) (cA : ClassId)  (ad : Nat → Nat) (sz : Nat) (M : ZMS) (x : Int32) (hx1 : vp_in x 200) : Met l y_LazyMachine_cellsFor w_LazyMachine_cellsFor ({ frames := 1, cells := 0, slots := 0, locals := 21 } : Room) (va_Pc [.ref (ad 0), .int x] (lm_pre (dC, dI) classes [(cA, .int)] (lz_W cA ad M) sz lm_no)) (va_Qi (fun (r : Int32) (u : ZMS) => r = ma_cells M x ∧ u = M) (fun u => lm_at (dC, dI) classes [(cA, .int)] (va_A (lz_W cA ad M) sz) (lz_W cA ad u)) (va_A (lz_W cA ad M) sz)) 0 0 (va_A (lz_W cA ad M) sz) := by
  obtain ⟨⟨ss, sp, fo, ba, no, en, vs, vf, vg⟩, SM, PM, XM, YM⟩ := M
  refine lm_met (fun A => va_Qi (fun (r : Int32) (u : ZMS) => r = ma_cells ((ss, sp, fo, ba, no, en, vs, vf, vg), SM, PM, XM, YM) x ∧ u = ((ss, sp, fo, ba, no, en, vs, vf, vg), SM, PM, XM, YM)) (fun u => lm_at (dC, dI) classes [(cA, .int)] A (lz_W cA ad u)) A) (by decide) rfl (Nat.le_of_ble_eq_true rfl) ?_
  intro p e s m below meth c A hx hb hr hts hown hlocks hname hml hK hP hD hA hE hsz hAe hS ls hl
  replace hl : lv_has ls 2 [(0, .ref (ad 0)), (1, .int x)] := hl
  clear hAe hsz
  refine lv_aload_n hx hb d_LazyMachine_cellsFor_0 rfl (lv_at hl 0 rfl) ?_
  refine va_get (D := (dC, dI)) (ci := 0) (v := .ref (ad 19)) (C := R_LazyMachine) (T := F_LazyMachine) (N := 13) hx hb hts (fun q hq => List.mem_cons_of_mem _ (i_LazyMachine q hq)) hown hK hP 0 rfl rfl 3 (by decide) (hts _ (List.mem_cons_of_mem _ m_2_10)) (fun _ h9 => h9) rfl d_LazyMachine_cellsFor_1 ?_
  refine lv_iload_n hx hb d_LazyMachine_cellsFor_4 rfl (lv_at hl 1 rfl) ?_
  refine lm_vi (b := ad 19) (As := [.int x]) (rest := []) (wr := (ma_W cA ad (ss, sp, fo, ba, no, en, vs, vf, vg)) ++ (hp_W cA (fun k => ad (k + 1)) SM) ++ (pl_W cA (fun k => ad (k + 8)) PM) ++ (tm_W cA (fun k => ad (k + 12)) XM)) ⟨hx, hb, hml, hown, hts⟩ hK hP hD hS hA [19, 20, 21, 22, 23, 24, 25] [0, 1, 2, 3, 4, 5, 6, 7, 8, 9, 10, 11, 12, 13, 14, 15, 16, 17, 18] rfl rfl (by decide) (by decide) (by decide) (c_Term_sort l dC dI cA (fun k => ad (k + 19)) _ YM x (by exact hx1)) (cwV 1 hts (lm_gV m_10_0 m_10_1 m_10_2 m_0_4 m_10_3) rfl rfl rfl (by decide +kernel) ⟨Nat.le_of_ble_eq_true rfl, Nat.le_of_ble_eq_true rfl⟩) (va_recv (q0 := 19) hK hP rfl rfl) lm_bl_no (fun _ _ _ => trivial) hl.1 rfl rfl (Nat.le_of_ble_eq_true rfl) d_LazyMachine_cellsFor_5 ⟨Nat.le_of_ble_eq_true rfl, Nat.le_of_ble_eq_true rfl⟩ (fun r5 u5 H locs w5 hP hD hS => ?_)
  obtain ⟨e_r5, w5⟩ := w5
  replace e_r5 := e_r5.symm
  subst e_r5
  replace w5 := w5.symm
  subst w5
  have hP : va_P (dC, dI) classes (lz_W cA ad ((ss, sp, fo, ba, no, en, vs, vf, vg), SM, PM, XM, YM)) H := hP
  have hD : va_D A (lz_W cA ad ((ss, sp, fo, ba, no, en, vs, vf, vg), SM, PM, XM, YM)) := hD
  refine lv_if_ne hx hb d_LazyMachine_cellsFor_8 rfl (fun h8 => ?_) (fun h8 => ?_)
  · refine lv_iconst (v := 1) hx hb d_LazyMachine_cellsFor_15 (by decide) ?_
    refine lm_ri (v := 1) hx hb hr hlocks ((ss, sp, fo, ba, no, en, vs, vf, vg), SM, PM, XM, YM) ?_ hP hK hD hS d_LazyMachine_cellsFor_16
    unfold ma_cells; first | (rw [if_pos h8]; exact ⟨rfl, rfl⟩) | (rw [if_neg h8]; exact ⟨rfl, rfl⟩)
  · refine lv_iconst (v := 0) hx hb d_LazyMachine_cellsFor_11 (by decide) ?_
    refine lv_goto hx hb d_LazyMachine_cellsFor_12 rfl ?_
    refine lm_ri (v := 0) hx hb hr hlocks ((ss, sp, fo, ba, no, en, vs, vf, vg), SM, PM, XM, YM) ?_ hP hK hD hS d_LazyMachine_cellsFor_16
    unfold ma_cells; first | (rw [if_pos h8]; exact ⟨rfl, rfl⟩) | (rw [if_neg h8]; exact ⟨rfl, rfl⟩)
set_option maxHeartbeats 4000000 in
set_option maxRecDepth 100000 in
theorem c_LazyMachine_thunkFor (l : Launch) (dC : Nat → ClassId) (dI : Nat → Nat → Nat) (cA : ClassId)  (ad : Nat → Nat) (sz : Nat) (M : ZMS) (x : Int32) (hx1 : vp_in x 200) (hs : ∀ j, j < 256 → hp_c (h_se (m_H M) j)) (hf : hp_fok (m_H M)) (he : hp_c (l_en M)) (ht : tm_lo (m_Y M)) : Met l y_LazyMachine_thunkFor w_LazyMachine_thunkFor ({ frames := 2, cells := 0, slots := 0, locals := 48 } : Room) (va_Pc [.ref (ad 0), .int x] (lm_pre (dC, dI) classes [(cA, .int)] (lz_W cA ad M) sz lm_no)) (va_Qi (fun (r : Int32) (u : ZMS) => r = (ma_thunk M x).1 ∧ u = (ma_thunk M x).2) (fun u => lm_at (dC, dI) classes [(cA, .int)] (va_A (lz_W cA ad M) sz) (lz_W cA ad u)) (va_A (lz_W cA ad M) sz)) 0 0 (va_A (lz_W cA ad M) sz) := by
  obtain ⟨⟨ss, sp, fo, ba, no, en, vs, vf, vg⟩, SM, PM, XM, YM⟩ := M
  refine lm_met (fun A => va_Qi (fun (r : Int32) (u : ZMS) => r = (ma_thunk ((ss, sp, fo, ba, no, en, vs, vf, vg), SM, PM, XM, YM) x).1 ∧ u = (ma_thunk ((ss, sp, fo, ba, no, en, vs, vf, vg), SM, PM, XM, YM) x).2) (fun u => lm_at (dC, dI) classes [(cA, .int)] A (lz_W cA ad u)) A) (by decide) rfl (Nat.le_of_ble_eq_true rfl) ?_
  intro p e s m below meth c A hx hb hr hts hown hlocks hname hml hK hP hD hA hE hsz hAe hS ls hl
  replace hl : lv_has ls 2 [(0, .ref (ad 0)), (1, .int x)] := hl
  clear hAe hsz
  refine lv_aload_n hx hb d_LazyMachine_thunkFor_0 rfl (lv_at hl 0 rfl) ?_
  refine va_get (D := (dC, dI)) (ci := 0) (v := .ref (ad 19)) (C := R_LazyMachine) (T := F_LazyMachine) (N := 13) hx hb hts (fun q hq => List.mem_cons_of_mem _ (i_LazyMachine q hq)) hown hK hP 0 rfl rfl 3 (by decide) (hts _ (List.mem_cons_of_mem _ m_2_10)) (fun _ h9 => h9) rfl d_LazyMachine_thunkFor_1 ?_
  refine lv_iload_n hx hb d_LazyMachine_thunkFor_4 rfl (lv_at hl 1 rfl) ?_
  refine lm_vi (b := ad 19) (As := [.int x]) (rest := []) (wr := (ma_W cA ad (ss, sp, fo, ba, no, en, vs, vf, vg)) ++ (hp_W cA (fun k => ad (k + 1)) SM) ++ (pl_W cA (fun k => ad (k + 8)) PM) ++ (tm_W cA (fun k => ad (k + 12)) XM)) ⟨hx, hb, hml, hown, hts⟩ hK hP hD hS hA [19, 20, 21, 22, 23, 24, 25] [0, 1, 2, 3, 4, 5, 6, 7, 8, 9, 10, 11, 12, 13, 14, 15, 16, 17, 18] rfl rfl (by decide) (by decide) (by decide) (c_Term_sort l dC dI cA (fun k => ad (k + 19)) _ YM x (by exact hx1)) (cwV 1 hts (lm_gV m_10_0 m_10_1 m_10_2 m_0_4 m_10_3) rfl rfl rfl (by decide +kernel) ⟨Nat.le_of_ble_eq_true rfl, Nat.le_of_ble_eq_true rfl⟩) (va_recv (q0 := 19) hK hP rfl rfl) lm_bl_no (fun _ _ _ => trivial) hl.1 rfl rfl (Nat.le_of_ble_eq_true rfl) d_LazyMachine_thunkFor_5 ⟨Nat.le_of_ble_eq_true rfl, Nat.le_of_ble_eq_true rfl⟩ (fun r5 u5 H locs w5 hP hD hS => ?_)
  obtain ⟨e_r5, w5⟩ := w5
  replace e_r5 := e_r5.symm
  subst e_r5
  replace w5 := w5.symm
  subst w5
  have hP : va_P (dC, dI) classes (lz_W cA ad ((ss, sp, fo, ba, no, en, vs, vf, vg), SM, PM, XM, YM)) H := hP
  have hD : va_D A (lz_W cA ad ((ss, sp, fo, ba, no, en, vs, vf, vg), SM, PM, XM, YM)) := hD
  refine lv_if_ne hx hb d_LazyMachine_thunkFor_8 rfl (fun h8 => ?_) (fun h8 => ?_)
  · refine lv_aload_n hx hb d_LazyMachine_thunkFor_31 rfl (lv_at hl 0 rfl) ?_
    refine va_get (D := (dC, dI)) (ci := 0) (v := .ref (ad 1)) (C := R_LazyMachine) (T := F_LazyMachine) (N := 13) hx hb hts (fun q hq => List.mem_cons_of_mem _ (i_LazyMachine q hq)) hown hK hP 0 rfl rfl 0 (by decide) (hts _ (List.mem_cons_of_mem _ m_2_7)) (fun _ h9 => h9) rfl d_LazyMachine_thunkFor_32 ?_
    refine lv_iconst (v := 3) hx hb d_LazyMachine_thunkFor_35 (by decide) ?_
    refine lv_iload_n hx hb d_LazyMachine_thunkFor_36 rfl (lv_at hl 1 rfl) ?_
    refine lv_aload_n hx hb d_LazyMachine_thunkFor_37 rfl (lv_at hl 0 rfl) ?_
    refine va_get (D := (dC, dI)) (ci := 0) (v := .int en) (C := R_LazyMachine) (T := F_LazyMachine) (N := 13) hx hb hts (fun q hq => List.mem_cons_of_mem _ (i_LazyMachine q hq)) hown hK hP 0 rfl rfl 9 (by decide) (hts _ (List.mem_cons_of_mem _ m_2_16)) (fun _ h9 => h9) rfl d_LazyMachine_thunkFor_38 ?_
    refine lm_vi (b := ad 1) (As := [.int 3, .int x, .int en]) (rest := []) (wr := (ma_W cA ad (ss, sp, fo, ba, no, en, vs, vf, vg)) ++ (pl_W cA (fun k => ad (k + 8)) PM) ++ (tm_W cA (fun k => ad (k + 12)) XM) ++ (tm_W cA (fun k => ad (k + 19)) YM)) ⟨hx, hb, hml, hown, hts⟩ hK hP hD hS hA [1, 2, 3, 4, 5, 6, 7] [0, 8, 9, 10, 11, 12, 13, 14, 15, 16, 17, 18, 19, 20, 21, 22, 23, 24, 25] rfl rfl (by decide) (by decide) (by decide) (c_Heap_take l dC dI cA (fun k => ad (k + 1)) _ SM 3 x en (by exact hf)) (cwV 3 hts (lm_gV m_8_22 m_8_23 m_9_0 m_0_2 m_9_1) rfl rfl rfl (by decide +kernel) ⟨Nat.le_of_ble_eq_true rfl, Nat.le_of_ble_eq_true rfl⟩) (va_recv (q0 := 1) hK hP rfl rfl) lm_bl_no (fun _ _ _ => trivial) hl.1 rfl rfl (Nat.le_of_ble_eq_true rfl) d_LazyMachine_thunkFor_41 ⟨Nat.le_of_ble_eq_true rfl, Nat.le_of_ble_eq_true rfl⟩ (fun r41 u41 H locs w41 hP hD hS => ?_)
    obtain ⟨e_r41, w41⟩ := w41
    have hP : va_P (dC, dI) classes (lz_W cA ad ((ss, sp, fo, ba, no, en, vs, vf, vg), u41, PM, XM, YM)) H := hP.sub [0, 19, 20, 21, 22, 23, 24, 25, 1, 2, 3, 4, 5, 6, 7, 8, 9, 10, 11, 12, 13, 14, 15, 16, 17, 18] rfl
    have hD : va_D A (lz_W cA ad ((ss, sp, fo, ba, no, en, vs, vf, vg), u41, PM, XM, YM)) := hD.sub [0, 19, 20, 21, 22, 23, 24, 25, 1, 2, 3, 4, 5, 6, 7, 8, 9, 10, 11, 12, 13, 14, 15, 16, 17, 18] (by decide) rfl
    refine lm_ri (v := r41) hx hb hr hlocks ((ss, sp, fo, ba, no, en, vs, vf, vg), u41, PM, XM, YM) ?_ hP hK hD hS d_LazyMachine_thunkFor_44
    subst e_r41 w41; unfold ma_thunk; first | (rw [if_pos h8]; exact ⟨rfl, rfl⟩) | (rw [if_neg h8]; exact ⟨rfl, rfl⟩)
  · refine lv_aload_n hx hb d_LazyMachine_thunkFor_11 rfl (lv_at hl 0 rfl) ?_
    refine va_get (D := (dC, dI)) (ci := 0) (v := .ref (ad 1)) (C := R_LazyMachine) (T := F_LazyMachine) (N := 13) hx hb hts (fun q hq => List.mem_cons_of_mem _ (i_LazyMachine q hq)) hown hK hP 0 rfl rfl 0 (by decide) (hts _ (List.mem_cons_of_mem _ m_2_7)) (fun _ h9 => h9) rfl d_LazyMachine_thunkFor_12 ?_
    refine lv_aload_n hx hb d_LazyMachine_thunkFor_15 rfl (lv_at hl 0 rfl) ?_
    refine va_get (D := (dC, dI)) (ci := 0) (v := .int en) (C := R_LazyMachine) (T := F_LazyMachine) (N := 13) hx hb hts (fun q hq => List.mem_cons_of_mem _ (i_LazyMachine q hq)) hown hK hP 0 rfl rfl 9 (by decide) (hts _ (List.mem_cons_of_mem _ m_2_16)) (fun _ h9 => h9) rfl d_LazyMachine_thunkFor_16 ?_
    refine lv_aload_n hx hb d_LazyMachine_thunkFor_19 rfl (lv_at hl 0 rfl) ?_
    refine va_get (D := (dC, dI)) (ci := 0) (v := .ref (ad 19)) (C := R_LazyMachine) (T := F_LazyMachine) (N := 13) hx hb hts (fun q hq => List.mem_cons_of_mem _ (i_LazyMachine q hq)) hown hK hP 0 rfl rfl 3 (by decide) (hts _ (List.mem_cons_of_mem _ m_2_10)) (fun _ h9 => h9) rfl d_LazyMachine_thunkFor_20 ?_
    refine lv_iload_n hx hb d_LazyMachine_thunkFor_23 rfl (lv_at hl 1 rfl) ?_
    refine lm_vi (b := ad 19) (As := [.int x]) (rest := [.int en, .ref (ad 1)]) (wr := (ma_W cA ad (ss, sp, fo, ba, no, en, vs, vf, vg)) ++ (hp_W cA (fun k => ad (k + 1)) SM) ++ (pl_W cA (fun k => ad (k + 8)) PM) ++ (tm_W cA (fun k => ad (k + 12)) XM)) ⟨hx, hb, hml, hown, hts⟩ hK hP hD hS hA [19, 20, 21, 22, 23, 24, 25] [0, 1, 2, 3, 4, 5, 6, 7, 8, 9, 10, 11, 12, 13, 14, 15, 16, 17, 18] rfl rfl (by decide) (by decide) (by decide) (c_Term_x l dC dI cA (fun k => ad (k + 19)) _ YM x (by exact hx1)) (cwV 1 hts (lm_gV m_11_11 m_11_12 m_11_13 m_0_4 m_11_14) rfl rfl rfl (by decide +kernel) ⟨Nat.le_of_ble_eq_true rfl, Nat.le_of_ble_eq_true rfl⟩) (va_recv (q0 := 19) hK hP rfl rfl) lm_bl_no (fun _ _ _ => trivial) hl.1 rfl rfl (Nat.le_of_ble_eq_true rfl) d_LazyMachine_thunkFor_24 ⟨Nat.le_of_ble_eq_true rfl, Nat.le_of_ble_eq_true rfl⟩ (fun r24 u24 H locs w24 hP hD hS => ?_)
    obtain ⟨e_r24, w24⟩ := w24
    replace e_r24 := e_r24.symm
    subst e_r24
    replace w24 := w24.symm
    subst w24
    have hP : va_P (dC, dI) classes (lz_W cA ad ((ss, sp, fo, ba, no, en, vs, vf, vg), SM, PM, XM, YM)) H := hP
    have hD : va_D A (lz_W cA ad ((ss, sp, fo, ba, no, en, vs, vf, vg), SM, PM, XM, YM)) := hD
    refine lm_vi (b := ad 1) (As := [.int en, .int (t_xs YM x.toNatClampNeg)]) (rest := []) (wr := (ma_W cA ad (ss, sp, fo, ba, no, en, vs, vf, vg)) ++ (pl_W cA (fun k => ad (k + 8)) PM) ++ (tm_W cA (fun k => ad (k + 12)) XM) ++ (tm_W cA (fun k => ad (k + 19)) YM)) ⟨hx, hb, hml, hown, hts⟩ hK hP hD hS hA [1, 2, 3, 4, 5, 6, 7] [0, 8, 9, 10, 11, 12, 13, 14, 15, 16, 17, 18, 19, 20, 21, 22, 23, 24, 25] rfl rfl (by decide) (by decide) (by decide) (c_Heap_boundTo l dC dI cA (fun k => ad (k + 1)) _ SM en (t_xs YM x.toNatClampNeg) (by exact he) (by exact ht.2 _ (hp_in_lt hx1 (by decide)) h8) (by exact hs)) (cwV 2 hts (lm_gV m_11_15 m_11_16 m_11_17 m_0_2 m_11_18) rfl rfl rfl (by decide +kernel) ⟨Nat.le_of_ble_eq_true rfl, Nat.le_of_ble_eq_true rfl⟩) (va_recv (q0 := 1) hK hP rfl rfl) lm_bl_no (fun _ _ _ => trivial) hl.1 rfl rfl (Nat.le_of_ble_eq_true rfl) d_LazyMachine_thunkFor_27 ⟨Nat.le_of_ble_eq_true rfl, Nat.le_of_ble_eq_true rfl⟩ (fun r27 u27 H locs w27 hP hD hS => ?_)
    obtain ⟨e_r27, w27⟩ := w27
    replace w27 := w27.symm
    subst w27
    have hP : va_P (dC, dI) classes (lz_W cA ad ((ss, sp, fo, ba, no, en, vs, vf, vg), SM, PM, XM, YM)) H := hP.sub [0, 19, 20, 21, 22, 23, 24, 25, 1, 2, 3, 4, 5, 6, 7, 8, 9, 10, 11, 12, 13, 14, 15, 16, 17, 18] rfl
    have hD : va_D A (lz_W cA ad ((ss, sp, fo, ba, no, en, vs, vf, vg), SM, PM, XM, YM)) := hD.sub [0, 19, 20, 21, 22, 23, 24, 25, 1, 2, 3, 4, 5, 6, 7, 8, 9, 10, 11, 12, 13, 14, 15, 16, 17, 18] (by decide) rfl
    refine lm_ri (v := r27) hx hb hr hlocks ((ss, sp, fo, ba, no, en, vs, vf, vg), SM, PM, XM, YM) ?_ hP hK hD hS d_LazyMachine_thunkFor_30
    subst e_r27; unfold ma_thunk; first | (rw [if_pos h8]; exact ⟨rfl, rfl⟩) | (rw [if_neg h8]; exact ⟨rfl, rfl⟩)
end
section
theorem d_LazyMachine_ask_0 : decode b_LazyMachine_ask 0 = .ok (.aload_n 0, 1) := by decide +kernel
theorem d_LazyMachine_ask_1 : decode b_LazyMachine_ask 1 = .ok (.getfield 10, 3) := by decide +kernel
theorem d_LazyMachine_ask_4 : decode b_LazyMachine_ask 4 = .ok (.iload_n 1, 1) := by decide +kernel
theorem d_LazyMachine_ask_5 : decode b_LazyMachine_ask 5 = .ok (.invokevirtual 224, 3) := by decide +kernel
theorem d_LazyMachine_ask_8 : decode b_LazyMachine_ask 8 = .ok (.istore_n 2, 1) := by decide +kernel
theorem d_LazyMachine_ask_9 : decode b_LazyMachine_ask 9 = .ok (.iload_n 2, 1) := by decide +kernel
theorem d_LazyMachine_ask_10 : decode b_LazyMachine_ask 10 = .ok (.iconst 4, 1) := by decide +kernel
theorem d_LazyMachine_ask_11 : decode b_LazyMachine_ask 11 = .ok (.if_icmp .ne 5, 3) := by decide +kernel
theorem d_LazyMachine_ask_14 : decode b_LazyMachine_ask 14 = .ok (.iconst 4, 1) := by decide +kernel
theorem d_LazyMachine_ask_15 : decode b_LazyMachine_ask 15 = .ok (.ireturn, 1) := by decide +kernel
theorem d_LazyMachine_ask_16 : decode b_LazyMachine_ask 16 = .ok (.aload_n 0, 1) := by decide +kernel
theorem d_LazyMachine_ask_17 : decode b_LazyMachine_ask 17 = .ok (.getfield 10, 3) := by decide +kernel
theorem d_LazyMachine_ask_20 : decode b_LazyMachine_ask 20 = .ok (.iload_n 1, 1) := by decide +kernel
theorem d_LazyMachine_ask_21 : decode b_LazyMachine_ask 21 = .ok (.invokevirtual 227, 3) := by decide +kernel
theorem d_LazyMachine_ask_24 : decode b_LazyMachine_ask 24 = .ok (.istore_n 3, 1) := by decide +kernel
theorem d_LazyMachine_ask_25 : decode b_LazyMachine_ask 25 = .ok (.aload_n 0, 1) := by decide +kernel
theorem d_LazyMachine_ask_26 : decode b_LazyMachine_ask 26 = .ok (.getfield 10, 3) := by decide +kernel
theorem d_LazyMachine_ask_29 : decode b_LazyMachine_ask 29 = .ok (.iload_n 1, 1) := by decide +kernel
theorem d_LazyMachine_ask_30 : decode b_LazyMachine_ask 30 = .ok (.invokevirtual 230, 3) := by decide +kernel
theorem d_LazyMachine_ask_33 : decode b_LazyMachine_ask 33 = .ok (.istore 4, 2) := by decide +kernel
theorem d_LazyMachine_ask_35 : decode b_LazyMachine_ask 35 = .ok (.iload_n 2, 1) := by decide +kernel
theorem d_LazyMachine_ask_36 : decode b_LazyMachine_ask 36 = .ok (.iconst 3, 1) := by decide +kernel
theorem d_LazyMachine_ask_37 : decode b_LazyMachine_ask 37 = .ok (.if_icmp .eq 12, 3) := by decide +kernel
theorem d_LazyMachine_ask_40 : decode b_LazyMachine_ask 40 = .ok (.aload_n 0, 1) := by decide +kernel
theorem d_LazyMachine_ask_41 : decode b_LazyMachine_ask 41 = .ok (.iload_n 2, 1) := by decide +kernel
theorem d_LazyMachine_ask_42 : decode b_LazyMachine_ask 42 = .ok (.iload_n 3, 1) := by decide +kernel
theorem d_LazyMachine_ask_43 : decode b_LazyMachine_ask 43 = .ok (.iload 4, 2) := by decide +kernel
theorem d_LazyMachine_ask_45 : decode b_LazyMachine_ask 45 = .ok (.invokevirtual 156, 3) := by decide +kernel
theorem d_LazyMachine_ask_48 : decode b_LazyMachine_ask 48 = .ok (.ireturn, 1) := by decide +kernel
theorem d_LazyMachine_ask_49 : decode b_LazyMachine_ask 49 = .ok (.aload_n 0, 1) := by decide +kernel
theorem d_LazyMachine_ask_50 : decode b_LazyMachine_ask 50 = .ok (.getfield 19, 3) := by decide +kernel
theorem d_LazyMachine_ask_53 : decode b_LazyMachine_ask 53 = .ok (.invokevirtual 174, 3) := by decide +kernel
theorem d_LazyMachine_ask_56 : decode b_LazyMachine_ask 56 = .ok (.ifCond .eq 5, 3) := by decide +kernel
theorem d_LazyMachine_ask_59 : decode b_LazyMachine_ask 59 = .ok (.iconst 5, 1) := by decide +kernel
theorem d_LazyMachine_ask_60 : decode b_LazyMachine_ask 60 = .ok (.ireturn, 1) := by decide +kernel
theorem d_LazyMachine_ask_61 : decode b_LazyMachine_ask 61 = .ok (.aload_n 0, 1) := by decide +kernel
theorem d_LazyMachine_ask_62 : decode b_LazyMachine_ask 62 = .ok (.getfield 10, 3) := by decide +kernel
theorem d_LazyMachine_ask_65 : decode b_LazyMachine_ask 65 = .ok (.iload_n 1, 1) := by decide +kernel
theorem d_LazyMachine_ask_66 : decode b_LazyMachine_ask 66 = .ok (.iconst 4, 1) := by decide +kernel
theorem d_LazyMachine_ask_67 : decode b_LazyMachine_ask 67 = .ok (.iconst (-1), 1) := by decide +kernel
theorem d_LazyMachine_ask_68 : decode b_LazyMachine_ask 68 = .ok (.iconst (-1), 1) := by decide +kernel
theorem d_LazyMachine_ask_69 : decode b_LazyMachine_ask 69 = .ok (.invokevirtual 199, 3) := by decide +kernel
theorem d_LazyMachine_ask_72 : decode b_LazyMachine_ask 72 = .ok (.aload_n 0, 1) := by decide +kernel
theorem d_LazyMachine_ask_73 : decode b_LazyMachine_ask 73 = .ok (.dup, 1) := by decide +kernel
theorem d_LazyMachine_ask_74 : decode b_LazyMachine_ask 74 = .ok (.getfield 122, 3) := by decide +kernel
theorem d_LazyMachine_ask_77 : decode b_LazyMachine_ask 77 = .ok (.iconst 1, 1) := by decide +kernel
theorem d_LazyMachine_ask_78 : decode b_LazyMachine_ask 78 = .ok (.iadd, 1) := by decide +kernel
theorem d_LazyMachine_ask_79 : decode b_LazyMachine_ask 79 = .ok (.putfield 122, 3) := by decide +kernel
theorem d_LazyMachine_ask_82 : decode b_LazyMachine_ask 82 = .ok (.aload_n 0, 1) := by decide +kernel
theorem d_LazyMachine_ask_83 : decode b_LazyMachine_ask 83 = .ok (.getfield 19, 3) := by decide +kernel
theorem d_LazyMachine_ask_86 : decode b_LazyMachine_ask 86 = .ok (.iconst 0, 1) := by decide +kernel
theorem d_LazyMachine_ask_87 : decode b_LazyMachine_ask 87 = .ok (.iload_n 1, 1) := by decide +kernel
theorem d_LazyMachine_ask_88 : decode b_LazyMachine_ask 88 = .ok (.iconst (-1), 1) := by decide +kernel
theorem d_LazyMachine_ask_89 : decode b_LazyMachine_ask 89 = .ok (.invokevirtual 178, 3) := by decide +kernel
theorem d_LazyMachine_ask_92 : decode b_LazyMachine_ask 92 = .ok (.aload_n 0, 1) := by decide +kernel
theorem d_LazyMachine_ask_93 : decode b_LazyMachine_ask 93 = .ok (.iload_n 3, 1) := by decide +kernel
theorem d_LazyMachine_ask_94 : decode b_LazyMachine_ask 94 = .ok (.iload 4, 2) := by decide +kernel
theorem d_LazyMachine_ask_96 : decode b_LazyMachine_ask 96 = .ok (.invokevirtual 142, 3) := by decide +kernel
theorem d_LazyMachine_ask_99 : decode b_LazyMachine_ask 99 = .ok (.iconst 1, 1) := by decide +kernel
theorem d_LazyMachine_ask_100 : decode b_LazyMachine_ask 100 = .ok (.ireturn, 1) := by decide +kernel
theorem d_LazyMachine_stepUnder_0 : decode b_LazyMachine_stepUnder 0 = .ok (.aload_n 0, 1) := by decide +kernel
theorem d_LazyMachine_stepUnder_1 : decode b_LazyMachine_stepUnder 1 = .ok (.getfield 19, 3) := by decide +kernel
theorem d_LazyMachine_stepUnder_4 : decode b_LazyMachine_stepUnder 4 = .ok (.invokevirtual 174, 3) := by decide +kernel
theorem d_LazyMachine_stepUnder_7 : decode b_LazyMachine_stepUnder 7 = .ok (.ifCond .eq 5, 3) := by decide +kernel
theorem d_LazyMachine_stepUnder_10 : decode b_LazyMachine_stepUnder 10 = .ok (.iconst 5, 1) := by decide +kernel
theorem d_LazyMachine_stepUnder_11 : decode b_LazyMachine_stepUnder 11 = .ok (.ireturn, 1) := by decide +kernel
theorem d_LazyMachine_stepUnder_12 : decode b_LazyMachine_stepUnder 12 = .ok (.aload_n 0, 1) := by decide +kernel
theorem d_LazyMachine_stepUnder_13 : decode b_LazyMachine_stepUnder 13 = .ok (.getfield 19, 3) := by decide +kernel
theorem d_LazyMachine_stepUnder_16 : decode b_LazyMachine_stepUnder 16 = .ok (.iload_n 1, 1) := by decide +kernel
theorem d_LazyMachine_stepUnder_17 : decode b_LazyMachine_stepUnder 17 = .ok (.iload_n 2, 1) := by decide +kernel
theorem d_LazyMachine_stepUnder_18 : decode b_LazyMachine_stepUnder 18 = .ok (.iload_n 3, 1) := by decide +kernel
theorem d_LazyMachine_stepUnder_19 : decode b_LazyMachine_stepUnder 19 = .ok (.invokevirtual 178, 3) := by decide +kernel
theorem d_LazyMachine_stepUnder_22 : decode b_LazyMachine_stepUnder 22 = .ok (.aload_n 0, 1) := by decide +kernel
theorem d_LazyMachine_stepUnder_23 : decode b_LazyMachine_stepUnder 23 = .ok (.aload_n 0, 1) := by decide +kernel
theorem d_LazyMachine_stepUnder_24 : decode b_LazyMachine_stepUnder 24 = .ok (.getfield 30, 3) := by decide +kernel
theorem d_LazyMachine_stepUnder_27 : decode b_LazyMachine_stepUnder 27 = .ok (.aload_n 0, 1) := by decide +kernel
theorem d_LazyMachine_stepUnder_28 : decode b_LazyMachine_stepUnder 28 = .ok (.getfield 132, 3) := by decide +kernel
theorem d_LazyMachine_stepUnder_31 : decode b_LazyMachine_stepUnder 31 = .ok (.iconst 0, 1) := by decide +kernel
theorem d_LazyMachine_stepUnder_32 : decode b_LazyMachine_stepUnder 32 = .ok (.invokevirtual 181, 3) := by decide +kernel
theorem d_LazyMachine_stepUnder_35 : decode b_LazyMachine_stepUnder 35 = .ok (.aload_n 0, 1) := by decide +kernel
theorem d_LazyMachine_stepUnder_36 : decode b_LazyMachine_stepUnder 36 = .ok (.getfield 37, 3) := by decide +kernel
theorem d_LazyMachine_stepUnder_39 : decode b_LazyMachine_stepUnder 39 = .ok (.invokevirtual 142, 3) := by decide +kernel
theorem d_LazyMachine_stepUnder_42 : decode b_LazyMachine_stepUnder 42 = .ok (.iconst 1, 1) := by decide +kernel
theorem d_LazyMachine_stepUnder_43 : decode b_LazyMachine_stepUnder 43 = .ok (.ireturn, 1) := by decide +kernel
theorem d_LazyMachine_stepApply_0 : decode b_LazyMachine_stepApply 0 = .ok (.aload_n 0, 1) := by decide +kernel
theorem d_LazyMachine_stepApply_1 : decode b_LazyMachine_stepApply 1 = .ok (.getfield 19, 3) := by decide +kernel
theorem d_LazyMachine_stepApply_4 : decode b_LazyMachine_stepApply 4 = .ok (.invokevirtual 174, 3) := by decide +kernel
theorem d_LazyMachine_stepApply_7 : decode b_LazyMachine_stepApply 7 = .ok (.ifCond .eq 5, 3) := by decide +kernel
theorem d_LazyMachine_stepApply_10 : decode b_LazyMachine_stepApply 10 = .ok (.iconst 5, 1) := by decide +kernel
theorem d_LazyMachine_stepApply_11 : decode b_LazyMachine_stepApply 11 = .ok (.ireturn, 1) := by decide +kernel
theorem d_LazyMachine_stepApply_12 : decode b_LazyMachine_stepApply 12 = .ok (.aload_n 0, 1) := by decide +kernel
theorem d_LazyMachine_stepApply_13 : decode b_LazyMachine_stepApply 13 = .ok (.getfield 30, 3) := by decide +kernel
theorem d_LazyMachine_stepApply_16 : decode b_LazyMachine_stepApply 16 = .ok (.aload_n 0, 1) := by decide +kernel
theorem d_LazyMachine_stepApply_17 : decode b_LazyMachine_stepApply 17 = .ok (.getfield 132, 3) := by decide +kernel
theorem d_LazyMachine_stepApply_20 : decode b_LazyMachine_stepApply 20 = .ok (.iconst 1, 1) := by decide +kernel
theorem d_LazyMachine_stepApply_21 : decode b_LazyMachine_stepApply 21 = .ok (.invokevirtual 181, 3) := by decide +kernel
theorem d_LazyMachine_stepApply_24 : decode b_LazyMachine_stepApply 24 = .ok (.istore_n 1, 1) := by decide +kernel
theorem d_LazyMachine_stepApply_25 : decode b_LazyMachine_stepApply 25 = .ok (.aload_n 0, 1) := by decide +kernel
theorem d_LazyMachine_stepApply_26 : decode b_LazyMachine_stepApply 26 = .ok (.aload_n 0, 1) := by decide +kernel
theorem d_LazyMachine_stepApply_27 : decode b_LazyMachine_stepApply 27 = .ok (.iload_n 1, 1) := by decide +kernel
theorem d_LazyMachine_stepApply_28 : decode b_LazyMachine_stepApply 28 = .ok (.invokevirtual 184, 3) := by decide +kernel
theorem d_LazyMachine_stepApply_31 : decode b_LazyMachine_stepApply 31 = .ok (.invokevirtual 111, 3) := by decide +kernel
theorem d_LazyMachine_stepApply_34 : decode b_LazyMachine_stepApply 34 = .ok (.ifCond .ne 6, 3) := by decide +kernel
theorem d_LazyMachine_stepApply_37 : decode b_LazyMachine_stepApply 37 = .ok (.bipush 6, 2) := by decide +kernel
theorem d_LazyMachine_stepApply_39 : decode b_LazyMachine_stepApply 39 = .ok (.ireturn, 1) := by decide +kernel
theorem d_LazyMachine_stepApply_40 : decode b_LazyMachine_stepApply 40 = .ok (.aload_n 0, 1) := by decide +kernel
theorem d_LazyMachine_stepApply_41 : decode b_LazyMachine_stepApply 41 = .ok (.iconst 1, 1) := by decide +kernel
theorem d_LazyMachine_stepApply_42 : decode b_LazyMachine_stepApply 42 = .ok (.aload_n 0, 1) := by decide +kernel
theorem d_LazyMachine_stepApply_43 : decode b_LazyMachine_stepApply 43 = .ok (.iload_n 1, 1) := by decide +kernel
theorem d_LazyMachine_stepApply_44 : decode b_LazyMachine_stepApply 44 = .ok (.invokevirtual 187, 3) := by decide +kernel
theorem d_LazyMachine_stepApply_47 : decode b_LazyMachine_stepApply 47 = .ok (.iconst (-1), 1) := by decide +kernel
theorem d_LazyMachine_stepApply_48 : decode b_LazyMachine_stepApply 48 = .ok (.invokevirtual 162, 3) := by decide +kernel
theorem d_LazyMachine_stepApply_51 : decode b_LazyMachine_stepApply 51 = .ok (.ireturn, 1) := by decide +kernel
theorem d_LazyMachine_stepFix_0 : decode b_LazyMachine_stepFix 0 = .ok (.aload_n 0, 1) := by decide +kernel
theorem d_LazyMachine_stepFix_1 : decode b_LazyMachine_stepFix 1 = .ok (.getfield 19, 3) := by decide +kernel
theorem d_LazyMachine_stepFix_4 : decode b_LazyMachine_stepFix 4 = .ok (.invokevirtual 174, 3) := by decide +kernel
theorem d_LazyMachine_stepFix_7 : decode b_LazyMachine_stepFix 7 = .ok (.ifCond .eq 5, 3) := by decide +kernel
theorem d_LazyMachine_stepFix_10 : decode b_LazyMachine_stepFix 10 = .ok (.iconst 5, 1) := by decide +kernel
theorem d_LazyMachine_stepFix_11 : decode b_LazyMachine_stepFix 11 = .ok (.ireturn, 1) := by decide +kernel
theorem d_LazyMachine_stepFix_12 : decode b_LazyMachine_stepFix 12 = .ok (.aload_n 0, 1) := by decide +kernel
theorem d_LazyMachine_stepFix_13 : decode b_LazyMachine_stepFix 13 = .ok (.iconst 2, 1) := by decide +kernel
theorem d_LazyMachine_stepFix_14 : decode b_LazyMachine_stepFix 14 = .ok (.invokevirtual 111, 3) := by decide +kernel
theorem d_LazyMachine_stepFix_17 : decode b_LazyMachine_stepFix 17 = .ok (.ifCond .ne 6, 3) := by decide +kernel
theorem d_LazyMachine_stepFix_20 : decode b_LazyMachine_stepFix 20 = .ok (.bipush 6, 2) := by decide +kernel
theorem d_LazyMachine_stepFix_22 : decode b_LazyMachine_stepFix 22 = .ok (.ireturn, 1) := by decide +kernel
theorem d_LazyMachine_stepFix_23 : decode b_LazyMachine_stepFix 23 = .ok (.aload_n 0, 1) := by decide +kernel
theorem d_LazyMachine_stepFix_24 : decode b_LazyMachine_stepFix 24 = .ok (.getfield 10, 3) := by decide +kernel
theorem d_LazyMachine_stepFix_27 : decode b_LazyMachine_stepFix 27 = .ok (.iconst 4, 1) := by decide +kernel
theorem d_LazyMachine_stepFix_28 : decode b_LazyMachine_stepFix 28 = .ok (.iconst (-1), 1) := by decide +kernel
theorem d_LazyMachine_stepFix_29 : decode b_LazyMachine_stepFix 29 = .ok (.iconst (-1), 1) := by decide +kernel
theorem d_LazyMachine_stepFix_30 : decode b_LazyMachine_stepFix 30 = .ok (.invokevirtual 115, 3) := by decide +kernel
theorem d_LazyMachine_stepFix_33 : decode b_LazyMachine_stepFix 33 = .ok (.istore_n 1, 1) := by decide +kernel
theorem d_LazyMachine_stepFix_34 : decode b_LazyMachine_stepFix 34 = .ok (.aload_n 0, 1) := by decide +kernel
theorem d_LazyMachine_stepFix_35 : decode b_LazyMachine_stepFix 35 = .ok (.dup, 1) := by decide +kernel
theorem d_LazyMachine_stepFix_36 : decode b_LazyMachine_stepFix 36 = .ok (.getfield 122, 3) := by decide +kernel
theorem d_LazyMachine_stepFix_39 : decode b_LazyMachine_stepFix 39 = .ok (.iconst 1, 1) := by decide +kernel
theorem d_LazyMachine_stepFix_40 : decode b_LazyMachine_stepFix 40 = .ok (.iadd, 1) := by decide +kernel
theorem d_LazyMachine_stepFix_41 : decode b_LazyMachine_stepFix 41 = .ok (.putfield 122, 3) := by decide +kernel
theorem d_LazyMachine_stepFix_44 : decode b_LazyMachine_stepFix 44 = .ok (.aload_n 0, 1) := by decide +kernel
theorem d_LazyMachine_stepFix_45 : decode b_LazyMachine_stepFix 45 = .ok (.getfield 19, 3) := by decide +kernel
theorem d_LazyMachine_stepFix_48 : decode b_LazyMachine_stepFix 48 = .ok (.iconst 0, 1) := by decide +kernel
theorem d_LazyMachine_stepFix_49 : decode b_LazyMachine_stepFix 49 = .ok (.iload_n 1, 1) := by decide +kernel
theorem d_LazyMachine_stepFix_50 : decode b_LazyMachine_stepFix 50 = .ok (.iconst (-1), 1) := by decide +kernel
theorem d_LazyMachine_stepFix_51 : decode b_LazyMachine_stepFix 51 = .ok (.invokevirtual 178, 3) := by decide +kernel
theorem d_LazyMachine_stepFix_54 : decode b_LazyMachine_stepFix 54 = .ok (.aload_n 0, 1) := by decide +kernel
theorem d_LazyMachine_stepFix_55 : decode b_LazyMachine_stepFix 55 = .ok (.aload_n 0, 1) := by decide +kernel
theorem d_LazyMachine_stepFix_56 : decode b_LazyMachine_stepFix 56 = .ok (.getfield 30, 3) := by decide +kernel
theorem d_LazyMachine_stepFix_59 : decode b_LazyMachine_stepFix 59 = .ok (.aload_n 0, 1) := by decide +kernel
theorem d_LazyMachine_stepFix_60 : decode b_LazyMachine_stepFix 60 = .ok (.getfield 132, 3) := by decide +kernel
theorem d_LazyMachine_stepFix_63 : decode b_LazyMachine_stepFix 63 = .ok (.iconst 0, 1) := by decide +kernel
theorem d_LazyMachine_stepFix_64 : decode b_LazyMachine_stepFix 64 = .ok (.invokevirtual 181, 3) := by decide +kernel
theorem d_LazyMachine_stepFix_67 : decode b_LazyMachine_stepFix 67 = .ok (.aload_n 0, 1) := by decide +kernel
theorem d_LazyMachine_stepFix_68 : decode b_LazyMachine_stepFix 68 = .ok (.getfield 10, 3) := by decide +kernel
theorem d_LazyMachine_stepFix_71 : decode b_LazyMachine_stepFix 71 = .ok (.iconst 5, 1) := by decide +kernel
theorem d_LazyMachine_stepFix_72 : decode b_LazyMachine_stepFix 72 = .ok (.iload_n 1, 1) := by decide +kernel
theorem d_LazyMachine_stepFix_73 : decode b_LazyMachine_stepFix 73 = .ok (.aload_n 0, 1) := by decide +kernel
theorem d_LazyMachine_stepFix_74 : decode b_LazyMachine_stepFix 74 = .ok (.getfield 37, 3) := by decide +kernel
theorem d_LazyMachine_stepFix_77 : decode b_LazyMachine_stepFix 77 = .ok (.invokevirtual 115, 3) := by decide +kernel
theorem d_LazyMachine_stepFix_80 : decode b_LazyMachine_stepFix 80 = .ok (.invokevirtual 142, 3) := by decide +kernel
theorem d_LazyMachine_stepFix_83 : decode b_LazyMachine_stepFix 83 = .ok (.iconst 1, 1) := by decide +kernel
theorem d_LazyMachine_stepFix_84 : decode b_LazyMachine_stepFix 84 = .ok (.ireturn, 1) := by decide +kernel
theorem d_LazyMachine_stepLet_0 : decode b_LazyMachine_stepLet 0 = .ok (.aload_n 0, 1) := by decide +kernel
theorem d_LazyMachine_stepLet_1 : decode b_LazyMachine_stepLet 1 = .ok (.getfield 30, 3) := by decide +kernel
theorem d_LazyMachine_stepLet_4 : decode b_LazyMachine_stepLet 4 = .ok (.aload_n 0, 1) := by decide +kernel
theorem d_LazyMachine_stepLet_5 : decode b_LazyMachine_stepLet 5 = .ok (.getfield 132, 3) := by decide +kernel
theorem d_LazyMachine_stepLet_8 : decode b_LazyMachine_stepLet 8 = .ok (.iconst 0, 1) := by decide +kernel
theorem d_LazyMachine_stepLet_9 : decode b_LazyMachine_stepLet 9 = .ok (.invokevirtual 181, 3) := by decide +kernel
theorem d_LazyMachine_stepLet_12 : decode b_LazyMachine_stepLet 12 = .ok (.istore_n 1, 1) := by decide +kernel
theorem d_LazyMachine_stepLet_13 : decode b_LazyMachine_stepLet 13 = .ok (.aload_n 0, 1) := by decide +kernel
theorem d_LazyMachine_stepLet_14 : decode b_LazyMachine_stepLet 14 = .ok (.aload_n 0, 1) := by decide +kernel
theorem d_LazyMachine_stepLet_15 : decode b_LazyMachine_stepLet 15 = .ok (.iload_n 1, 1) := by decide +kernel
theorem d_LazyMachine_stepLet_16 : decode b_LazyMachine_stepLet 16 = .ok (.invokevirtual 184, 3) := by decide +kernel
theorem d_LazyMachine_stepLet_19 : decode b_LazyMachine_stepLet 19 = .ok (.iconst 1, 1) := by decide +kernel
theorem d_LazyMachine_stepLet_20 : decode b_LazyMachine_stepLet 20 = .ok (.iadd, 1) := by decide +kernel
theorem d_LazyMachine_stepLet_21 : decode b_LazyMachine_stepLet 21 = .ok (.invokevirtual 111, 3) := by decide +kernel
theorem d_LazyMachine_stepLet_24 : decode b_LazyMachine_stepLet 24 = .ok (.ifCond .ne 6, 3) := by decide +kernel
theorem d_LazyMachine_stepLet_27 : decode b_LazyMachine_stepLet 27 = .ok (.bipush 6, 2) := by decide +kernel
theorem d_LazyMachine_stepLet_29 : decode b_LazyMachine_stepLet 29 = .ok (.ireturn, 1) := by decide +kernel
theorem d_LazyMachine_stepLet_30 : decode b_LazyMachine_stepLet 30 = .ok (.aload_n 0, 1) := by decide +kernel
theorem d_LazyMachine_stepLet_31 : decode b_LazyMachine_stepLet 31 = .ok (.iload_n 1, 1) := by decide +kernel
theorem d_LazyMachine_stepLet_32 : decode b_LazyMachine_stepLet 32 = .ok (.invokevirtual 187, 3) := by decide +kernel
theorem d_LazyMachine_stepLet_35 : decode b_LazyMachine_stepLet 35 = .ok (.istore_n 2, 1) := by decide +kernel
theorem d_LazyMachine_stepLet_36 : decode b_LazyMachine_stepLet 36 = .ok (.aload_n 0, 1) := by decide +kernel
theorem d_LazyMachine_stepLet_37 : decode b_LazyMachine_stepLet 37 = .ok (.aload_n 0, 1) := by decide +kernel
theorem d_LazyMachine_stepLet_38 : decode b_LazyMachine_stepLet 38 = .ok (.getfield 30, 3) := by decide +kernel
theorem d_LazyMachine_stepLet_41 : decode b_LazyMachine_stepLet 41 = .ok (.aload_n 0, 1) := by decide +kernel
theorem d_LazyMachine_stepLet_42 : decode b_LazyMachine_stepLet 42 = .ok (.getfield 132, 3) := by decide +kernel
theorem d_LazyMachine_stepLet_45 : decode b_LazyMachine_stepLet 45 = .ok (.iconst 1, 1) := by decide +kernel
theorem d_LazyMachine_stepLet_46 : decode b_LazyMachine_stepLet 46 = .ok (.invokevirtual 181, 3) := by decide +kernel
theorem d_LazyMachine_stepLet_49 : decode b_LazyMachine_stepLet 49 = .ok (.aload_n 0, 1) := by decide +kernel
theorem d_LazyMachine_stepLet_50 : decode b_LazyMachine_stepLet 50 = .ok (.getfield 10, 3) := by decide +kernel
theorem d_LazyMachine_stepLet_53 : decode b_LazyMachine_stepLet 53 = .ok (.iconst 5, 1) := by decide +kernel
theorem d_LazyMachine_stepLet_54 : decode b_LazyMachine_stepLet 54 = .ok (.iload_n 2, 1) := by decide +kernel
theorem d_LazyMachine_stepLet_55 : decode b_LazyMachine_stepLet 55 = .ok (.aload_n 0, 1) := by decide +kernel
theorem d_LazyMachine_stepLet_56 : decode b_LazyMachine_stepLet 56 = .ok (.getfield 37, 3) := by decide +kernel
theorem d_LazyMachine_stepLet_59 : decode b_LazyMachine_stepLet 59 = .ok (.invokevirtual 115, 3) := by decide +kernel
theorem d_LazyMachine_stepLet_62 : decode b_LazyMachine_stepLet 62 = .ok (.invokevirtual 142, 3) := by decide +kernel
theorem d_LazyMachine_stepLet_65 : decode b_LazyMachine_stepLet 65 = .ok (.iconst 1, 1) := by decide +kernel
theorem d_LazyMachine_stepLet_66 : decode b_LazyMachine_stepLet 66 = .ok (.ireturn, 1) := by decide +kernel
theorem d_LazyMachine_stepPair_0 : decode b_LazyMachine_stepPair 0 = .ok (.aload_n 0, 1) := by decide +kernel
theorem d_LazyMachine_stepPair_1 : decode b_LazyMachine_stepPair 1 = .ok (.getfield 30, 3) := by decide +kernel
theorem d_LazyMachine_stepPair_4 : decode b_LazyMachine_stepPair 4 = .ok (.aload_n 0, 1) := by decide +kernel
theorem d_LazyMachine_stepPair_5 : decode b_LazyMachine_stepPair 5 = .ok (.getfield 132, 3) := by decide +kernel
theorem d_LazyMachine_stepPair_8 : decode b_LazyMachine_stepPair 8 = .ok (.iconst 0, 1) := by decide +kernel
theorem d_LazyMachine_stepPair_9 : decode b_LazyMachine_stepPair 9 = .ok (.invokevirtual 181, 3) := by decide +kernel
theorem d_LazyMachine_stepPair_12 : decode b_LazyMachine_stepPair 12 = .ok (.istore_n 1, 1) := by decide +kernel
theorem d_LazyMachine_stepPair_13 : decode b_LazyMachine_stepPair 13 = .ok (.aload_n 0, 1) := by decide +kernel
theorem d_LazyMachine_stepPair_14 : decode b_LazyMachine_stepPair 14 = .ok (.getfield 30, 3) := by decide +kernel
theorem d_LazyMachine_stepPair_17 : decode b_LazyMachine_stepPair 17 = .ok (.aload_n 0, 1) := by decide +kernel
theorem d_LazyMachine_stepPair_18 : decode b_LazyMachine_stepPair 18 = .ok (.getfield 132, 3) := by decide +kernel
theorem d_LazyMachine_stepPair_21 : decode b_LazyMachine_stepPair 21 = .ok (.iconst 1, 1) := by decide +kernel
theorem d_LazyMachine_stepPair_22 : decode b_LazyMachine_stepPair 22 = .ok (.invokevirtual 181, 3) := by decide +kernel
theorem d_LazyMachine_stepPair_25 : decode b_LazyMachine_stepPair 25 = .ok (.istore_n 2, 1) := by decide +kernel
theorem d_LazyMachine_stepPair_26 : decode b_LazyMachine_stepPair 26 = .ok (.aload_n 0, 1) := by decide +kernel
theorem d_LazyMachine_stepPair_27 : decode b_LazyMachine_stepPair 27 = .ok (.aload_n 0, 1) := by decide +kernel
theorem d_LazyMachine_stepPair_28 : decode b_LazyMachine_stepPair 28 = .ok (.iload_n 1, 1) := by decide +kernel
theorem d_LazyMachine_stepPair_29 : decode b_LazyMachine_stepPair 29 = .ok (.invokevirtual 184, 3) := by decide +kernel
theorem d_LazyMachine_stepPair_32 : decode b_LazyMachine_stepPair 32 = .ok (.aload_n 0, 1) := by decide +kernel
theorem d_LazyMachine_stepPair_33 : decode b_LazyMachine_stepPair 33 = .ok (.iload_n 2, 1) := by decide +kernel
theorem d_LazyMachine_stepPair_34 : decode b_LazyMachine_stepPair 34 = .ok (.invokevirtual 184, 3) := by decide +kernel
theorem d_LazyMachine_stepPair_37 : decode b_LazyMachine_stepPair 37 = .ok (.iadd, 1) := by decide +kernel
theorem d_LazyMachine_stepPair_38 : decode b_LazyMachine_stepPair 38 = .ok (.invokevirtual 111, 3) := by decide +kernel
theorem d_LazyMachine_stepPair_41 : decode b_LazyMachine_stepPair 41 = .ok (.ifCond .ne 6, 3) := by decide +kernel
theorem d_LazyMachine_stepPair_44 : decode b_LazyMachine_stepPair 44 = .ok (.bipush 6, 2) := by decide +kernel
theorem d_LazyMachine_stepPair_46 : decode b_LazyMachine_stepPair 46 = .ok (.ireturn, 1) := by decide +kernel
theorem d_LazyMachine_stepPair_47 : decode b_LazyMachine_stepPair 47 = .ok (.aload_n 0, 1) := by decide +kernel
theorem d_LazyMachine_stepPair_48 : decode b_LazyMachine_stepPair 48 = .ok (.iload_n 1, 1) := by decide +kernel
theorem d_LazyMachine_stepPair_49 : decode b_LazyMachine_stepPair 49 = .ok (.invokevirtual 187, 3) := by decide +kernel
theorem d_LazyMachine_stepPair_52 : decode b_LazyMachine_stepPair 52 = .ok (.istore_n 3, 1) := by decide +kernel
theorem d_LazyMachine_stepPair_53 : decode b_LazyMachine_stepPair 53 = .ok (.aload_n 0, 1) := by decide +kernel
theorem d_LazyMachine_stepPair_54 : decode b_LazyMachine_stepPair 54 = .ok (.iconst 2, 1) := by decide +kernel
theorem d_LazyMachine_stepPair_55 : decode b_LazyMachine_stepPair 55 = .ok (.iload_n 3, 1) := by decide +kernel
theorem d_LazyMachine_stepPair_56 : decode b_LazyMachine_stepPair 56 = .ok (.aload_n 0, 1) := by decide +kernel
theorem d_LazyMachine_stepPair_57 : decode b_LazyMachine_stepPair 57 = .ok (.iload_n 2, 1) := by decide +kernel
theorem d_LazyMachine_stepPair_58 : decode b_LazyMachine_stepPair 58 = .ok (.invokevirtual 187, 3) := by decide +kernel
theorem d_LazyMachine_stepPair_61 : decode b_LazyMachine_stepPair 61 = .ok (.invokevirtual 156, 3) := by decide +kernel
theorem d_LazyMachine_stepPair_64 : decode b_LazyMachine_stepPair 64 = .ok (.ireturn, 1) := by decide +kernel
theorem d_LazyMachine_enterFunction_0 : decode b_LazyMachine_enterFunction 0 = .ok (.aload_n 0, 1) := by decide +kernel
theorem d_LazyMachine_enterFunction_1 : decode b_LazyMachine_enterFunction 1 = .ok (.aload_n 0, 1) := by decide +kernel
theorem d_LazyMachine_enterFunction_2 : decode b_LazyMachine_enterFunction 2 = .ok (.getfield 30, 3) := by decide +kernel
theorem d_LazyMachine_enterFunction_5 : decode b_LazyMachine_enterFunction 5 = .ok (.aload_n 0, 1) := by decide +kernel
theorem d_LazyMachine_enterFunction_6 : decode b_LazyMachine_enterFunction 6 = .ok (.getfield 40, 3) := by decide +kernel
theorem d_LazyMachine_enterFunction_9 : decode b_LazyMachine_enterFunction 9 = .ok (.iconst 0, 1) := by decide +kernel
theorem d_LazyMachine_enterFunction_10 : decode b_LazyMachine_enterFunction 10 = .ok (.invokevirtual 181, 3) := by decide +kernel
theorem d_LazyMachine_enterFunction_13 : decode b_LazyMachine_enterFunction 13 = .ok (.aload_n 0, 1) := by decide +kernel
theorem d_LazyMachine_enterFunction_14 : decode b_LazyMachine_enterFunction 14 = .ok (.getfield 10, 3) := by decide +kernel
theorem d_LazyMachine_enterFunction_17 : decode b_LazyMachine_enterFunction 17 = .ok (.iconst 5, 1) := by decide +kernel
theorem d_LazyMachine_enterFunction_18 : decode b_LazyMachine_enterFunction 18 = .ok (.iload_n 1, 1) := by decide +kernel
theorem d_LazyMachine_enterFunction_19 : decode b_LazyMachine_enterFunction 19 = .ok (.aload_n 0, 1) := by decide +kernel
theorem d_LazyMachine_enterFunction_20 : decode b_LazyMachine_enterFunction 20 = .ok (.getfield 43, 3) := by decide +kernel
theorem d_LazyMachine_enterFunction_23 : decode b_LazyMachine_enterFunction 23 = .ok (.invokevirtual 115, 3) := by decide +kernel
theorem d_LazyMachine_enterFunction_26 : decode b_LazyMachine_enterFunction 26 = .ok (.invokevirtual 142, 3) := by decide +kernel
theorem d_LazyMachine_enterFunction_29 : decode b_LazyMachine_enterFunction 29 = .ok (.return_, 1) := by decide +kernel
theorem d_LazyMachine_stepArgument_0 : decode b_LazyMachine_stepArgument 0 = .ok (.aload_n 0, 1) := by decide +kernel
theorem d_LazyMachine_stepArgument_1 : decode b_LazyMachine_stepArgument 1 = .ok (.getfield 98, 3) := by decide +kernel
theorem d_LazyMachine_stepArgument_4 : decode b_LazyMachine_stepArgument 4 = .ok (.iconst 1, 1) := by decide +kernel
theorem d_LazyMachine_stepArgument_5 : decode b_LazyMachine_stepArgument 5 = .ok (.if_icmp .eq 5, 3) := by decide +kernel
theorem d_LazyMachine_stepArgument_8 : decode b_LazyMachine_stepArgument 8 = .ok (.iconst 3, 1) := by decide +kernel
theorem d_LazyMachine_stepArgument_9 : decode b_LazyMachine_stepArgument 9 = .ok (.ireturn, 1) := by decide +kernel
theorem d_LazyMachine_stepArgument_10 : decode b_LazyMachine_stepArgument 10 = .ok (.aload_n 0, 1) := by decide +kernel
theorem d_LazyMachine_stepArgument_11 : decode b_LazyMachine_stepArgument 11 = .ok (.iconst 1, 1) := by decide +kernel
theorem d_LazyMachine_stepArgument_12 : decode b_LazyMachine_stepArgument 12 = .ok (.invokevirtual 111, 3) := by decide +kernel
theorem d_LazyMachine_stepArgument_15 : decode b_LazyMachine_stepArgument 15 = .ok (.ifCond .ne 6, 3) := by decide +kernel
theorem d_LazyMachine_stepArgument_18 : decode b_LazyMachine_stepArgument 18 = .ok (.bipush 6, 2) := by decide +kernel
theorem d_LazyMachine_stepArgument_20 : decode b_LazyMachine_stepArgument 20 = .ok (.ireturn, 1) := by decide +kernel
theorem d_LazyMachine_stepArgument_21 : decode b_LazyMachine_stepArgument 21 = .ok (.aload_n 0, 1) := by decide +kernel
theorem d_LazyMachine_stepArgument_22 : decode b_LazyMachine_stepArgument 22 = .ok (.getfield 19, 3) := by decide +kernel
theorem d_LazyMachine_stepArgument_25 : decode b_LazyMachine_stepArgument 25 = .ok (.invokevirtual 196, 3) := by decide +kernel
theorem d_LazyMachine_stepArgument_28 : decode b_LazyMachine_stepArgument 28 = .ok (.aload_n 0, 1) := by decide +kernel
theorem d_LazyMachine_stepArgument_29 : decode b_LazyMachine_stepArgument 29 = .ok (.iload_n 1, 1) := by decide +kernel
theorem d_LazyMachine_stepArgument_30 : decode b_LazyMachine_stepArgument 30 = .ok (.invokevirtual 119, 3) := by decide +kernel
theorem d_LazyMachine_stepArgument_33 : decode b_LazyMachine_stepArgument 33 = .ok (.iconst 1, 1) := by decide +kernel
theorem d_LazyMachine_stepArgument_34 : decode b_LazyMachine_stepArgument 34 = .ok (.ireturn, 1) := by decide +kernel
theorem d_LazyMachine_stepLeft_0 : decode b_LazyMachine_stepLeft 0 = .ok (.aload_n 0, 1) := by decide +kernel
theorem d_LazyMachine_stepLeft_1 : decode b_LazyMachine_stepLeft 1 = .ok (.getfield 98, 3) := by decide +kernel
theorem d_LazyMachine_stepLeft_4 : decode b_LazyMachine_stepLeft 4 = .ok (.ifCond .eq 5, 3) := by decide +kernel
theorem d_LazyMachine_stepLeft_7 : decode b_LazyMachine_stepLeft 7 = .ok (.iconst 3, 1) := by decide +kernel
theorem d_LazyMachine_stepLeft_8 : decode b_LazyMachine_stepLeft 8 = .ok (.ireturn, 1) := by decide +kernel
theorem d_LazyMachine_stepLeft_9 : decode b_LazyMachine_stepLeft 9 = .ok (.aload_n 0, 1) := by decide +kernel
theorem d_LazyMachine_stepLeft_10 : decode b_LazyMachine_stepLeft 10 = .ok (.getfield 19, 3) := by decide +kernel
theorem d_LazyMachine_stepLeft_13 : decode b_LazyMachine_stepLeft 13 = .ok (.invokevirtual 196, 3) := by decide +kernel
theorem d_LazyMachine_stepLeft_16 : decode b_LazyMachine_stepLeft 16 = .ok (.aload_n 0, 1) := by decide +kernel
theorem d_LazyMachine_stepLeft_17 : decode b_LazyMachine_stepLeft 17 = .ok (.getfield 19, 3) := by decide +kernel
theorem d_LazyMachine_stepLeft_20 : decode b_LazyMachine_stepLeft 20 = .ok (.iconst 3, 1) := by decide +kernel
theorem d_LazyMachine_stepLeft_21 : decode b_LazyMachine_stepLeft 21 = .ok (.iload_n 1, 1) := by decide +kernel
theorem d_LazyMachine_stepLeft_22 : decode b_LazyMachine_stepLeft 22 = .ok (.aload_n 0, 1) := by decide +kernel
theorem d_LazyMachine_stepLeft_23 : decode b_LazyMachine_stepLeft 23 = .ok (.getfield 40, 3) := by decide +kernel
theorem d_LazyMachine_stepLeft_26 : decode b_LazyMachine_stepLeft 26 = .ok (.invokevirtual 178, 3) := by decide +kernel
theorem d_LazyMachine_stepLeft_29 : decode b_LazyMachine_stepLeft 29 = .ok (.aload_n 0, 1) := by decide +kernel
theorem d_LazyMachine_stepLeft_30 : decode b_LazyMachine_stepLeft 30 = .ok (.aload_n 0, 1) := by decide +kernel
theorem d_LazyMachine_stepLeft_31 : decode b_LazyMachine_stepLeft 31 = .ok (.getfield 30, 3) := by decide +kernel
theorem d_LazyMachine_stepLeft_34 : decode b_LazyMachine_stepLeft 34 = .ok (.iload_n 1, 1) := by decide +kernel
theorem d_LazyMachine_stepLeft_35 : decode b_LazyMachine_stepLeft 35 = .ok (.iconst 1, 1) := by decide +kernel
theorem d_LazyMachine_stepLeft_36 : decode b_LazyMachine_stepLeft 36 = .ok (.invokevirtual 181, 3) := by decide +kernel
theorem d_LazyMachine_stepLeft_39 : decode b_LazyMachine_stepLeft 39 = .ok (.iload_n 2, 1) := by decide +kernel
theorem d_LazyMachine_stepLeft_40 : decode b_LazyMachine_stepLeft 40 = .ok (.invokevirtual 142, 3) := by decide +kernel
theorem d_LazyMachine_stepLeft_43 : decode b_LazyMachine_stepLeft 43 = .ok (.iconst 1, 1) := by decide +kernel
theorem d_LazyMachine_stepLeft_44 : decode b_LazyMachine_stepLeft 44 = .ok (.ireturn, 1) := by decide +kernel
theorem d_LazyMachine_reckon_0 : decode b_LazyMachine_reckon 0 = .ok (.iload_n 0, 1) := by decide +kernel
theorem d_LazyMachine_reckon_1 : decode b_LazyMachine_reckon 1 = .ok (.tableswitch 39 4 6 #[27, 31, 35], 27) := by decide +kernel
theorem d_LazyMachine_reckon_28 : decode b_LazyMachine_reckon 28 = .ok (.iload_n 1, 1) := by decide +kernel
theorem d_LazyMachine_reckon_29 : decode b_LazyMachine_reckon 29 = .ok (.iload_n 2, 1) := by decide +kernel
theorem d_LazyMachine_reckon_30 : decode b_LazyMachine_reckon 30 = .ok (.iadd, 1) := by decide +kernel
theorem d_LazyMachine_reckon_31 : decode b_LazyMachine_reckon 31 = .ok (.ireturn, 1) := by decide +kernel
theorem d_LazyMachine_reckon_32 : decode b_LazyMachine_reckon 32 = .ok (.iload_n 1, 1) := by decide +kernel
theorem d_LazyMachine_reckon_33 : decode b_LazyMachine_reckon 33 = .ok (.iload_n 2, 1) := by decide +kernel
theorem d_LazyMachine_reckon_34 : decode b_LazyMachine_reckon 34 = .ok (.isub, 1) := by decide +kernel
theorem d_LazyMachine_reckon_35 : decode b_LazyMachine_reckon 35 = .ok (.ireturn, 1) := by decide +kernel
theorem d_LazyMachine_reckon_36 : decode b_LazyMachine_reckon 36 = .ok (.iload_n 1, 1) := by decide +kernel
theorem d_LazyMachine_reckon_37 : decode b_LazyMachine_reckon 37 = .ok (.iload_n 2, 1) := by decide +kernel
theorem d_LazyMachine_reckon_38 : decode b_LazyMachine_reckon 38 = .ok (.imul, 1) := by decide +kernel
theorem d_LazyMachine_reckon_39 : decode b_LazyMachine_reckon 39 = .ok (.ireturn, 1) := by decide +kernel
theorem d_LazyMachine_reckon_40 : decode b_LazyMachine_reckon 40 = .ok (.iload_n 1, 1) := by decide +kernel
theorem d_LazyMachine_reckon_41 : decode b_LazyMachine_reckon 41 = .ok (.iload_n 2, 1) := by decide +kernel
theorem d_LazyMachine_reckon_42 : decode b_LazyMachine_reckon 42 = .ok (.if_icmp .ge 7, 3) := by decide +kernel
theorem d_LazyMachine_reckon_45 : decode b_LazyMachine_reckon 45 = .ok (.iconst 1, 1) := by decide +kernel
theorem d_LazyMachine_reckon_46 : decode b_LazyMachine_reckon 46 = .ok (.goto 4, 3) := by decide +kernel
theorem d_LazyMachine_reckon_49 : decode b_LazyMachine_reckon 49 = .ok (.iconst 0, 1) := by decide +kernel
theorem d_LazyMachine_reckon_50 : decode b_LazyMachine_reckon 50 = .ok (.ireturn, 1) := by decide +kernel
theorem d_LazyMachine_stepRight_0 : decode b_LazyMachine_stepRight 0 = .ok (.aload_n 0, 1) := by decide +kernel
theorem d_LazyMachine_stepRight_1 : decode b_LazyMachine_stepRight 1 = .ok (.getfield 98, 3) := by decide +kernel
theorem d_LazyMachine_stepRight_4 : decode b_LazyMachine_stepRight 4 = .ok (.ifCond .eq 5, 3) := by decide +kernel
theorem d_LazyMachine_stepRight_7 : decode b_LazyMachine_stepRight 7 = .ok (.iconst 3, 1) := by decide +kernel
theorem d_LazyMachine_stepRight_8 : decode b_LazyMachine_stepRight 8 = .ok (.ireturn, 1) := by decide +kernel
theorem d_LazyMachine_stepRight_9 : decode b_LazyMachine_stepRight 9 = .ok (.aload_n 0, 1) := by decide +kernel
theorem d_LazyMachine_stepRight_10 : decode b_LazyMachine_stepRight 10 = .ok (.getfield 19, 3) := by decide +kernel
theorem d_LazyMachine_stepRight_13 : decode b_LazyMachine_stepRight 13 = .ok (.invokevirtual 196, 3) := by decide +kernel
theorem d_LazyMachine_stepRight_16 : decode b_LazyMachine_stepRight 16 = .ok (.aload_n 0, 1) := by decide +kernel
theorem d_LazyMachine_stepRight_17 : decode b_LazyMachine_stepRight 17 = .ok (.iconst 0, 1) := by decide +kernel
theorem d_LazyMachine_stepRight_18 : decode b_LazyMachine_stepRight 18 = .ok (.aload_n 0, 1) := by decide +kernel
theorem d_LazyMachine_stepRight_19 : decode b_LazyMachine_stepRight 19 = .ok (.getfield 30, 3) := by decide +kernel
theorem d_LazyMachine_stepRight_22 : decode b_LazyMachine_stepRight 22 = .ok (.iload_n 1, 1) := by decide +kernel
theorem d_LazyMachine_stepRight_23 : decode b_LazyMachine_stepRight 23 = .ok (.invokevirtual 146, 3) := by decide +kernel
theorem d_LazyMachine_stepRight_26 : decode b_LazyMachine_stepRight 26 = .ok (.iload_n 2, 1) := by decide +kernel
theorem d_LazyMachine_stepRight_27 : decode b_LazyMachine_stepRight 27 = .ok (.aload_n 0, 1) := by decide +kernel
theorem d_LazyMachine_stepRight_28 : decode b_LazyMachine_stepRight 28 = .ok (.getfield 40, 3) := by decide +kernel
theorem d_LazyMachine_stepRight_31 : decode b_LazyMachine_stepRight 31 = .ok (.invokestatic 221, 3) := by decide +kernel
theorem d_LazyMachine_stepRight_34 : decode b_LazyMachine_stepRight 34 = .ok (.iconst (-1), 1) := by decide +kernel
theorem d_LazyMachine_stepRight_35 : decode b_LazyMachine_stepRight 35 = .ok (.invokevirtual 156, 3) := by decide +kernel
theorem d_LazyMachine_stepRight_38 : decode b_LazyMachine_stepRight 38 = .ok (.ireturn, 1) := by decide +kernel
theorem d_LazyMachine_stepTest_0 : decode b_LazyMachine_stepTest 0 = .ok (.aload_n 0, 1) := by decide +kernel
theorem d_LazyMachine_stepTest_1 : decode b_LazyMachine_stepTest 1 = .ok (.getfield 98, 3) := by decide +kernel
theorem d_LazyMachine_stepTest_4 : decode b_LazyMachine_stepTest 4 = .ok (.ifCond .eq 5, 3) := by decide +kernel
theorem d_LazyMachine_stepTest_7 : decode b_LazyMachine_stepTest 7 = .ok (.iconst 3, 1) := by decide +kernel
theorem d_LazyMachine_stepTest_8 : decode b_LazyMachine_stepTest 8 = .ok (.ireturn, 1) := by decide +kernel
theorem d_LazyMachine_stepTest_9 : decode b_LazyMachine_stepTest 9 = .ok (.aload_n 0, 1) := by decide +kernel
theorem d_LazyMachine_stepTest_10 : decode b_LazyMachine_stepTest 10 = .ok (.getfield 19, 3) := by decide +kernel
theorem d_LazyMachine_stepTest_13 : decode b_LazyMachine_stepTest 13 = .ok (.invokevirtual 196, 3) := by decide +kernel
theorem d_LazyMachine_stepTest_16 : decode b_LazyMachine_stepTest 16 = .ok (.aload_n 0, 1) := by decide +kernel
theorem d_LazyMachine_stepTest_17 : decode b_LazyMachine_stepTest 17 = .ok (.aload_n 0, 1) := by decide +kernel
theorem d_LazyMachine_stepTest_18 : decode b_LazyMachine_stepTest 18 = .ok (.getfield 30, 3) := by decide +kernel
theorem d_LazyMachine_stepTest_21 : decode b_LazyMachine_stepTest 21 = .ok (.iload_n 1, 1) := by decide +kernel
theorem d_LazyMachine_stepTest_22 : decode b_LazyMachine_stepTest 22 = .ok (.aload_n 0, 1) := by decide +kernel
theorem d_LazyMachine_stepTest_23 : decode b_LazyMachine_stepTest 23 = .ok (.getfield 40, 3) := by decide +kernel
theorem d_LazyMachine_stepTest_26 : decode b_LazyMachine_stepTest 26 = .ok (.ifCond .ne 7, 3) := by decide +kernel
theorem d_LazyMachine_stepTest_29 : decode b_LazyMachine_stepTest 29 = .ok (.iconst 1, 1) := by decide +kernel
theorem d_LazyMachine_stepTest_30 : decode b_LazyMachine_stepTest 30 = .ok (.goto 4, 3) := by decide +kernel
theorem d_LazyMachine_stepTest_33 : decode b_LazyMachine_stepTest 33 = .ok (.iconst 2, 1) := by decide +kernel
theorem d_LazyMachine_stepTest_34 : decode b_LazyMachine_stepTest 34 = .ok (.invokevirtual 181, 3) := by decide +kernel
theorem d_LazyMachine_stepTest_37 : decode b_LazyMachine_stepTest 37 = .ok (.iload_n 2, 1) := by decide +kernel
theorem d_LazyMachine_stepTest_38 : decode b_LazyMachine_stepTest 38 = .ok (.invokevirtual 142, 3) := by decide +kernel
theorem d_LazyMachine_stepTest_41 : decode b_LazyMachine_stepTest 41 = .ok (.iconst 1, 1) := by decide +kernel
theorem d_LazyMachine_stepTest_42 : decode b_LazyMachine_stepTest 42 = .ok (.ireturn, 1) := by decide +kernel
theorem d_LazyMachine_stepPart_0 : decode b_LazyMachine_stepPart 0 = .ok (.aload_n 0, 1) := by decide +kernel
theorem d_LazyMachine_stepPart_1 : decode b_LazyMachine_stepPart 1 = .ok (.getfield 98, 3) := by decide +kernel
theorem d_LazyMachine_stepPart_4 : decode b_LazyMachine_stepPart 4 = .ok (.iconst 2, 1) := by decide +kernel
theorem d_LazyMachine_stepPart_5 : decode b_LazyMachine_stepPart 5 = .ok (.if_icmp .eq 5, 3) := by decide +kernel
theorem d_LazyMachine_stepPart_8 : decode b_LazyMachine_stepPart 8 = .ok (.iconst 3, 1) := by decide +kernel
theorem d_LazyMachine_stepPart_9 : decode b_LazyMachine_stepPart 9 = .ok (.ireturn, 1) := by decide +kernel
theorem d_LazyMachine_stepPart_10 : decode b_LazyMachine_stepPart 10 = .ok (.iload_n 1, 1) := by decide +kernel
theorem d_LazyMachine_stepPart_11 : decode b_LazyMachine_stepPart 11 = .ok (.ifCond .ne 10, 3) := by decide +kernel
theorem d_LazyMachine_stepPart_14 : decode b_LazyMachine_stepPart 14 = .ok (.aload_n 0, 1) := by decide +kernel
theorem d_LazyMachine_stepPart_15 : decode b_LazyMachine_stepPart 15 = .ok (.getfield 40, 3) := by decide +kernel
theorem d_LazyMachine_stepPart_18 : decode b_LazyMachine_stepPart 18 = .ok (.goto 7, 3) := by decide +kernel
theorem d_LazyMachine_stepPart_21 : decode b_LazyMachine_stepPart 21 = .ok (.aload_n 0, 1) := by decide +kernel
theorem d_LazyMachine_stepPart_22 : decode b_LazyMachine_stepPart 22 = .ok (.getfield 43, 3) := by decide +kernel
theorem d_LazyMachine_stepPart_25 : decode b_LazyMachine_stepPart 25 = .ok (.istore_n 2, 1) := by decide +kernel
theorem d_LazyMachine_stepPart_26 : decode b_LazyMachine_stepPart 26 = .ok (.aload_n 0, 1) := by decide +kernel
theorem d_LazyMachine_stepPart_27 : decode b_LazyMachine_stepPart 27 = .ok (.getfield 10, 3) := by decide +kernel
theorem d_LazyMachine_stepPart_30 : decode b_LazyMachine_stepPart 30 = .ok (.iload_n 2, 1) := by decide +kernel
theorem d_LazyMachine_stepPart_31 : decode b_LazyMachine_stepPart 31 = .ok (.invokevirtual 224, 3) := by decide +kernel
theorem d_LazyMachine_stepPart_34 : decode b_LazyMachine_stepPart 34 = .ok (.iconst 4, 1) := by decide +kernel
theorem d_LazyMachine_stepPart_35 : decode b_LazyMachine_stepPart 35 = .ok (.if_icmp .ne 5, 3) := by decide +kernel
theorem d_LazyMachine_stepPart_38 : decode b_LazyMachine_stepPart 38 = .ok (.iconst 4, 1) := by decide +kernel
theorem d_LazyMachine_stepPart_39 : decode b_LazyMachine_stepPart 39 = .ok (.ireturn, 1) := by decide +kernel
theorem d_LazyMachine_stepPart_40 : decode b_LazyMachine_stepPart 40 = .ok (.aload_n 0, 1) := by decide +kernel
theorem d_LazyMachine_stepPart_41 : decode b_LazyMachine_stepPart 41 = .ok (.getfield 19, 3) := by decide +kernel
theorem d_LazyMachine_stepPart_44 : decode b_LazyMachine_stepPart 44 = .ok (.invokevirtual 196, 3) := by decide +kernel
theorem d_LazyMachine_stepPart_47 : decode b_LazyMachine_stepPart 47 = .ok (.aload_n 0, 1) := by decide +kernel
theorem d_LazyMachine_stepPart_48 : decode b_LazyMachine_stepPart 48 = .ok (.iload_n 2, 1) := by decide +kernel
theorem d_LazyMachine_stepPart_49 : decode b_LazyMachine_stepPart 49 = .ok (.invokevirtual 105, 3) := by decide +kernel
theorem d_LazyMachine_stepPart_52 : decode b_LazyMachine_stepPart 52 = .ok (.ireturn, 1) := by decide +kernel
end
section
set_option maxHeartbeats 4000000 in
set_option maxRecDepth 100000 in
theorem c_LazyMachine_ask (l : Launch) (dC : Nat → ClassId) (dI : Nat → Nat → Nat) (cA : ClassId)  (ad : Nat → Nat) (sz : Nat) (M : ZMS) (x : Int32) (hx1 : hp_c x) (hz : pl_ok (m_P M)) : Met l y_LazyMachine_ask w_LazyMachine_ask ({ frames := 2, cells := 0, slots := 0, locals := 43 } : Room) (va_Pc [.ref (ad 0), .int x] (lm_pre (dC, dI) classes [(cA, .int)] (lz_W cA ad M) sz lm_no)) (va_Qi (fun (r : Int32) (u : ZMS) => r = (ma_ask M x).1 ∧ u = (ma_ask M x).2) (fun u => lm_at (dC, dI) classes [(cA, .int)] (va_A (lz_W cA ad M) sz) (lz_W cA ad u)) (va_A (lz_W cA ad M) sz)) 0 0 (va_A (lz_W cA ad M) sz) := by
  obtain ⟨⟨ss, sp, fo, ba, no, en, vs, vf, vg⟩, SM, PM, XM, YM⟩ := M
  refine lm_met (fun A => va_Qi (fun (r : Int32) (u : ZMS) => r = (ma_ask ((ss, sp, fo, ba, no, en, vs, vf, vg), SM, PM, XM, YM) x).1 ∧ u = (ma_ask ((ss, sp, fo, ba, no, en, vs, vf, vg), SM, PM, XM, YM) x).2) (fun u => lm_at (dC, dI) classes [(cA, .int)] A (lz_W cA ad u)) A) (by decide) rfl (Nat.le_of_ble_eq_true rfl) ?_
  intro p e s m below meth c A hx hb hr hts hown hlocks hname hml hK hP hD hA hE hsz hAe hS ls hl
  replace hl : lv_has ls 5 [(0, .ref (ad 0)), (1, .int x)] := hl
  clear hAe hsz
  refine lv_aload_n hx hb d_LazyMachine_ask_0 rfl (lv_at hl 0 rfl) ?_
  refine va_get (D := (dC, dI)) (ci := 0) (v := .ref (ad 1)) (C := R_LazyMachine) (T := F_LazyMachine) (N := 13) hx hb hts (fun q hq => List.mem_cons_of_mem _ (i_LazyMachine q hq)) hown hK hP 0 rfl rfl 0 (by decide) (hts _ (List.mem_cons_of_mem _ m_2_7)) (fun _ h9 => h9) rfl d_LazyMachine_ask_1 ?_
  refine lv_iload_n hx hb d_LazyMachine_ask_4 rfl (lv_at hl 1 rfl) ?_
  refine lm_vi (b := ad 1) (As := [.int x]) (rest := []) (wr := (ma_W cA ad (ss, sp, fo, ba, no, en, vs, vf, vg)) ++ (pl_W cA (fun k => ad (k + 8)) PM) ++ (tm_W cA (fun k => ad (k + 12)) XM) ++ (tm_W cA (fun k => ad (k + 19)) YM)) ⟨hx, hb, hml, hown, hts⟩ hK hP hD hS hA [1, 2, 3, 4, 5, 6, 7] [0, 8, 9, 10, 11, 12, 13, 14, 15, 16, 17, 18, 19, 20, 21, 22, 23, 24, 25] rfl rfl (by decide) (by decide) (by decide) (c_Heap_state l dC dI cA (fun k => ad (k + 1)) _ SM x (by exact hx1)) (cwV 1 hts (lm_gV m_10_16 m_10_17 m_10_18 m_0_2 m_10_19) rfl rfl rfl (by decide +kernel) ⟨Nat.le_of_ble_eq_true rfl, Nat.le_of_ble_eq_true rfl⟩) (va_recv (q0 := 1) hK hP rfl rfl) lm_bl_no (fun _ _ _ => trivial) hl.1 rfl rfl (Nat.le_of_ble_eq_true rfl) d_LazyMachine_ask_5 ⟨Nat.le_of_ble_eq_true rfl, Nat.le_of_ble_eq_true rfl⟩ (fun r5 u5 H locs w5 hP hD hS => ?_)
  obtain ⟨e_r5, w5⟩ := w5
  replace w5 := w5.symm
  subst w5
  have hP : va_P (dC, dI) classes (lz_W cA ad ((ss, sp, fo, ba, no, en, vs, vf, vg), SM, PM, XM, YM)) H := hP.sub [0, 19, 20, 21, 22, 23, 24, 25, 1, 2, 3, 4, 5, 6, 7, 8, 9, 10, 11, 12, 13, 14, 15, 16, 17, 18] rfl
  have hD : va_D A (lz_W cA ad ((ss, sp, fo, ba, no, en, vs, vf, vg), SM, PM, XM, YM)) := hD.sub [0, 19, 20, 21, 22, 23, 24, 25, 1, 2, 3, 4, 5, 6, 7, 8, 9, 10, 11, 12, 13, 14, 15, 16, 17, 18] (by decide) rfl
  refine lv_istore_n (lv' := [(2, .int r5), (0, .ref (ad 0)), (1, .int x)]) hx hb d_LazyMachine_ask_8 rfl hl (by decide) rfl (fun ls hl => ?_)
  refine lv_iload_n hx hb d_LazyMachine_ask_9 rfl (lv_at hl 0 rfl) ?_
  refine lv_iconst (v := 4) hx hb d_LazyMachine_ask_10 (by decide) ?_
  refine lv_icmp_ne hx hb d_LazyMachine_ask_11 rfl (fun h11 => ?_) (fun h11 => ?_)
  · refine lv_aload_n hx hb d_LazyMachine_ask_16 rfl (lv_at hl 1 rfl) ?_
    refine va_get (D := (dC, dI)) (ci := 0) (v := .ref (ad 1)) (C := R_LazyMachine) (T := F_LazyMachine) (N := 13) hx hb hts (fun q hq => List.mem_cons_of_mem _ (i_LazyMachine q hq)) hown hK hP 0 rfl rfl 0 (by decide) (hts _ (List.mem_cons_of_mem _ m_2_7)) (fun _ h9 => h9) rfl d_LazyMachine_ask_17 ?_
    refine lv_iload_n hx hb d_LazyMachine_ask_20 rfl (lv_at hl 2 rfl) ?_
    refine lm_vi (b := ad 1) (As := [.int x]) (rest := []) (wr := (ma_W cA ad (ss, sp, fo, ba, no, en, vs, vf, vg)) ++ (pl_W cA (fun k => ad (k + 8)) PM) ++ (tm_W cA (fun k => ad (k + 12)) XM) ++ (tm_W cA (fun k => ad (k + 19)) YM)) ⟨hx, hb, hml, hown, hts⟩ hK hP hD hS hA [1, 2, 3, 4, 5, 6, 7] [0, 8, 9, 10, 11, 12, 13, 14, 15, 16, 17, 18, 19, 20, 21, 22, 23, 24, 25] rfl rfl (by decide) (by decide) (by decide) (c_Heap_first l dC dI cA (fun k => ad (k + 1)) _ SM x (by exact hx1)) (cwV 1 hts (lm_gV m_10_23 m_11_0 m_11_1 m_0_2 m_11_2) rfl rfl rfl (by decide +kernel) ⟨Nat.le_of_ble_eq_true rfl, Nat.le_of_ble_eq_true rfl⟩) (va_recv (q0 := 1) hK hP rfl rfl) lm_bl_no (fun _ _ _ => trivial) hl.1 rfl rfl (Nat.le_of_ble_eq_true rfl) d_LazyMachine_ask_21 ⟨Nat.le_of_ble_eq_true rfl, Nat.le_of_ble_eq_true rfl⟩ (fun r21 u21 H locs w21 hP hD hS => ?_)
    obtain ⟨e_r21, w21⟩ := w21
    replace w21 := w21.symm
    subst w21
    have hP : va_P (dC, dI) classes (lz_W cA ad ((ss, sp, fo, ba, no, en, vs, vf, vg), SM, PM, XM, YM)) H := hP.sub [0, 19, 20, 21, 22, 23, 24, 25, 1, 2, 3, 4, 5, 6, 7, 8, 9, 10, 11, 12, 13, 14, 15, 16, 17, 18] rfl
    have hD : va_D A (lz_W cA ad ((ss, sp, fo, ba, no, en, vs, vf, vg), SM, PM, XM, YM)) := hD.sub [0, 19, 20, 21, 22, 23, 24, 25, 1, 2, 3, 4, 5, 6, 7, 8, 9, 10, 11, 12, 13, 14, 15, 16, 17, 18] (by decide) rfl
    refine lv_istore_n (lv' := [(3, .int r21), (2, .int r5), (0, .ref (ad 0)), (1, .int x)]) hx hb d_LazyMachine_ask_24 rfl hl (by decide) rfl (fun ls hl => ?_)
    refine lv_aload_n hx hb d_LazyMachine_ask_25 rfl (lv_at hl 2 rfl) ?_
    refine va_get (D := (dC, dI)) (ci := 0) (v := .ref (ad 1)) (C := R_LazyMachine) (T := F_LazyMachine) (N := 13) hx hb hts (fun q hq => List.mem_cons_of_mem _ (i_LazyMachine q hq)) hown hK hP 0 rfl rfl 0 (by decide) (hts _ (List.mem_cons_of_mem _ m_2_7)) (fun _ h9 => h9) rfl d_LazyMachine_ask_26 ?_
    refine lv_iload_n hx hb d_LazyMachine_ask_29 rfl (lv_at hl 3 rfl) ?_
    refine lm_vi (b := ad 1) (As := [.int x]) (rest := []) (wr := (ma_W cA ad (ss, sp, fo, ba, no, en, vs, vf, vg)) ++ (pl_W cA (fun k => ad (k + 8)) PM) ++ (tm_W cA (fun k => ad (k + 12)) XM) ++ (tm_W cA (fun k => ad (k + 19)) YM)) ⟨hx, hb, hml, hown, hts⟩ hK hP hD hS hA [1, 2, 3, 4, 5, 6, 7] [0, 8, 9, 10, 11, 12, 13, 14, 15, 16, 17, 18, 19, 20, 21, 22, 23, 24, 25] rfl rfl (by decide) (by decide) (by decide) (c_Heap_second l dC dI cA (fun k => ad (k + 1)) _ SM x (by exact hx1)) (cwV 1 hts (lm_gV m_11_3 m_11_4 m_11_5 m_0_2 m_11_6) rfl rfl rfl (by decide +kernel) ⟨Nat.le_of_ble_eq_true rfl, Nat.le_of_ble_eq_true rfl⟩) (va_recv (q0 := 1) hK hP rfl rfl) lm_bl_no (fun _ _ _ => trivial) hl.1 rfl rfl (Nat.le_of_ble_eq_true rfl) d_LazyMachine_ask_30 ⟨Nat.le_of_ble_eq_true rfl, Nat.le_of_ble_eq_true rfl⟩ (fun r30 u30 H locs w30 hP hD hS => ?_)
    obtain ⟨e_r30, w30⟩ := w30
    replace w30 := w30.symm
    subst w30
    have hP : va_P (dC, dI) classes (lz_W cA ad ((ss, sp, fo, ba, no, en, vs, vf, vg), SM, PM, XM, YM)) H := hP.sub [0, 19, 20, 21, 22, 23, 24, 25, 1, 2, 3, 4, 5, 6, 7, 8, 9, 10, 11, 12, 13, 14, 15, 16, 17, 18] rfl
    have hD : va_D A (lz_W cA ad ((ss, sp, fo, ba, no, en, vs, vf, vg), SM, PM, XM, YM)) := hD.sub [0, 19, 20, 21, 22, 23, 24, 25, 1, 2, 3, 4, 5, 6, 7, 8, 9, 10, 11, 12, 13, 14, 15, 16, 17, 18] (by decide) rfl
    refine lv_istore (lv' := [(4, .int r30), (3, .int r21), (2, .int r5), (0, .ref (ad 0)), (1, .int x)]) hx hb d_LazyMachine_ask_33 hl (by decide) rfl (fun ls hl => ?_)
    refine lv_iload_n hx hb d_LazyMachine_ask_35 rfl (lv_at hl 2 rfl) ?_
    refine lv_iconst (v := 3) hx hb d_LazyMachine_ask_36 (by decide) ?_
    refine lv_icmp_eq hx hb d_LazyMachine_ask_37 rfl (fun h37 => ?_) (fun h37 => ?_)
    · refine lv_aload_n hx hb d_LazyMachine_ask_49 rfl (lv_at hl 3 rfl) ?_
      refine va_get (D := (dC, dI)) (ci := 0) (v := .ref (ad 8)) (C := R_LazyMachine) (T := F_LazyMachine) (N := 13) hx hb hts (fun q hq => List.mem_cons_of_mem _ (i_LazyMachine q hq)) hown hK hP 0 rfl rfl 1 (by decide) (hts _ (List.mem_cons_of_mem _ m_2_8)) (fun _ h9 => h9) rfl d_LazyMachine_ask_50 ?_
      refine lm_vi (b := ad 8) (As := []) (rest := []) (wr := (ma_W cA ad (ss, sp, fo, ba, no, en, vs, vf, vg)) ++ (hp_W cA (fun k => ad (k + 1)) SM) ++ (tm_W cA (fun k => ad (k + 12)) XM) ++ (tm_W cA (fun k => ad (k + 19)) YM)) ⟨hx, hb, hml, hown, hts⟩ hK hP hD hS hA [8, 9, 10, 11] [0, 1, 2, 3, 4, 5, 6, 7, 12, 13, 14, 15, 16, 17, 18, 19, 20, 21, 22, 23, 24, 25] rfl rfl (by decide) (by decide) (by decide) (c_Pile_isFull l dC dI cA (fun k => ad (k + 8)) _ PM  ) (cwV 0 hts (lm_gV m_11_7 m_9_15 m_9_16 m_0_3 m_9_17) rfl rfl rfl (by decide +kernel) ⟨Nat.le_of_ble_eq_true rfl, Nat.le_of_ble_eq_true rfl⟩) (va_recv (q0 := 8) hK hP rfl rfl) lm_bl_no (fun _ _ _ => trivial) hl.1 rfl rfl (Nat.le_of_ble_eq_true rfl) d_LazyMachine_ask_53 ⟨Nat.le_of_ble_eq_true rfl, Nat.le_of_ble_eq_true rfl⟩ (fun r53 u53 H locs w53 hP hD hS => ?_)
      obtain ⟨e_r53, w53⟩ := w53
      replace w53 := w53.symm
      subst w53
      have hP : va_P (dC, dI) classes (lz_W cA ad ((ss, sp, fo, ba, no, en, vs, vf, vg), SM, PM, XM, YM)) H := hP.sub [0, 1, 2, 3, 4, 5, 6, 7, 22, 23, 24, 25, 8, 9, 10, 11, 12, 13, 14, 15, 16, 17, 18, 19, 20, 21] rfl
      have hD : va_D A (lz_W cA ad ((ss, sp, fo, ba, no, en, vs, vf, vg), SM, PM, XM, YM)) := hD.sub [0, 1, 2, 3, 4, 5, 6, 7, 22, 23, 24, 25, 8, 9, 10, 11, 12, 13, 14, 15, 16, 17, 18, 19, 20, 21] (by decide) rfl
      refine lv_if_eq hx hb d_LazyMachine_ask_56 rfl (fun h56 => ?_) (fun h56 => ?_)
      · refine lv_aload_n hx hb d_LazyMachine_ask_61 rfl (lv_at hl 3 rfl) ?_
        refine va_get (D := (dC, dI)) (ci := 0) (v := .ref (ad 1)) (C := R_LazyMachine) (T := F_LazyMachine) (N := 13) hx hb hts (fun q hq => List.mem_cons_of_mem _ (i_LazyMachine q hq)) hown hK hP 0 rfl rfl 0 (by decide) (hts _ (List.mem_cons_of_mem _ m_2_7)) (fun _ h9 => h9) rfl d_LazyMachine_ask_62 ?_
        refine lv_iload_n hx hb d_LazyMachine_ask_65 rfl (lv_at hl 4 rfl) ?_
        refine lv_iconst (v := 4) hx hb d_LazyMachine_ask_66 (by decide) ?_
        refine lv_iconst (v := -1) hx hb d_LazyMachine_ask_67 (by decide) ?_
        refine lv_iconst (v := -1) hx hb d_LazyMachine_ask_68 (by decide) ?_
        refine lm_vv (b := ad 1) (As := [.int x, .int 4, .int (-1), .int (-1)]) (rest := []) (wr := (ma_W cA ad (ss, sp, fo, ba, no, en, vs, vf, vg)) ++ (pl_W cA (fun k => ad (k + 8)) PM) ++ (tm_W cA (fun k => ad (k + 12)) XM) ++ (tm_W cA (fun k => ad (k + 19)) YM)) ⟨hx, hb, hml, hown, hts⟩ hK hP hD hS hA [1, 2, 3, 4, 5, 6, 7] [0, 8, 9, 10, 11, 12, 13, 14, 15, 16, 17, 18, 19, 20, 21, 22, 23, 24, 25] rfl rfl (by decide) (by decide) (by decide) (c_Heap_become l dC dI cA (fun k => ad (k + 1)) _ SM x 4 (-1) (-1) (by exact hx1)) (cwV 4 hts (lm_gV m_8_0 m_8_1 m_8_2 m_0_2 m_8_3) rfl rfl rfl (by decide +kernel) ⟨Nat.le_of_ble_eq_true rfl, Nat.le_of_ble_eq_true rfl⟩) (va_recv (q0 := 1) hK hP rfl rfl) lm_bl_no (fun _ _ _ => trivial) hl.1 rfl rfl (Nat.le_of_ble_eq_true rfl) d_LazyMachine_ask_69 ⟨Nat.le_of_ble_eq_true rfl, Nat.le_of_ble_eq_true rfl⟩ (fun u69 H locs w69 hP hD hS => ?_)
        have hP : va_P (dC, dI) classes (lz_W cA ad ((ss, sp, fo, ba, no, en, vs, vf, vg), u69, PM, XM, YM)) H := hP.sub [0, 19, 20, 21, 22, 23, 24, 25, 1, 2, 3, 4, 5, 6, 7, 8, 9, 10, 11, 12, 13, 14, 15, 16, 17, 18] rfl
        have hD : va_D A (lz_W cA ad ((ss, sp, fo, ba, no, en, vs, vf, vg), u69, PM, XM, YM)) := hD.sub [0, 19, 20, 21, 22, 23, 24, 25, 1, 2, 3, 4, 5, 6, 7, 8, 9, 10, 11, 12, 13, 14, 15, 16, 17, 18] (by decide) rfl
        refine lv_aload_n hx hb d_LazyMachine_ask_72 rfl (lv_at hl 3 rfl) ?_
        refine lv_dup hx hb d_LazyMachine_ask_73 rfl ?_
        refine va_get (D := (dC, dI)) (ci := 0) (v := .int fo) (C := R_LazyMachine) (T := F_LazyMachine) (N := 13) hx hb hts (fun q hq => List.mem_cons_of_mem _ (i_LazyMachine q hq)) hown hK hP 0 rfl rfl 6 (by decide) (hts _ (List.mem_cons_of_mem _ m_2_13)) (fun _ h9 => h9) rfl d_LazyMachine_ask_74 ?_
        refine lv_iconst (v := 1) hx hb d_LazyMachine_ask_77 (by decide) ?_
        refine lv_iadd hx hb d_LazyMachine_ask_78 ?_
        refine va_put (D := (dC, dI)) (ci := 0) (v := .int (fo + 1)) (ty := .int) (C := R_LazyMachine) (T := F_LazyMachine) (N := 13) hx hb hts (fun q hq => List.mem_cons_of_mem _ (i_LazyMachine q hq)) t_LazyMachine t_LazyMachine_ok n_LazyMachine hown hK hP hD hS 0 rfl rfl 6 (by decide) (hts _ (List.mem_cons_of_mem _ m_2_13)) (fun _ h9 => h9) rfl (by decide +kernel) rfl rfl (Nat.le_of_ble_eq_true rfl) d_LazyMachine_ask_79 (fun H locs hP hD hS => ?_)
        have hP : va_P (dC, dI) classes (lz_W cA ad ((ss, sp, (fo + 1), ba, no, en, vs, vf, vg), u69, PM, XM, YM)) H := hP
        have hD : va_D A (lz_W cA ad ((ss, sp, (fo + 1), ba, no, en, vs, vf, vg), u69, PM, XM, YM)) := hD
        refine lv_aload_n hx hb d_LazyMachine_ask_82 rfl (lv_at hl 3 rfl) ?_
        refine va_get (D := (dC, dI)) (ci := 0) (v := .ref (ad 8)) (C := R_LazyMachine) (T := F_LazyMachine) (N := 13) hx hb hts (fun q hq => List.mem_cons_of_mem _ (i_LazyMachine q hq)) hown hK hP 0 rfl rfl 1 (by decide) (hts _ (List.mem_cons_of_mem _ m_2_8)) (fun _ h9 => h9) rfl d_LazyMachine_ask_83 ?_
        refine lv_iconst (v := 0) hx hb d_LazyMachine_ask_86 (by decide) ?_
        refine lv_iload_n hx hb d_LazyMachine_ask_87 rfl (lv_at hl 4 rfl) ?_
        refine lv_iconst (v := -1) hx hb d_LazyMachine_ask_88 (by decide) ?_
        refine lm_vv (b := ad 8) (As := [.int 0, .int x, .int (-1)]) (rest := []) (wr := (ma_W cA ad (ss, sp, (fo + 1), ba, no, en, vs, vf, vg)) ++ (hp_W cA (fun k => ad (k + 1)) u69) ++ (tm_W cA (fun k => ad (k + 12)) XM) ++ (tm_W cA (fun k => ad (k + 19)) YM)) ⟨hx, hb, hml, hown, hts⟩ hK hP hD hS hA [8, 9, 10, 11] [0, 1, 2, 3, 4, 5, 6, 7, 12, 13, 14, 15, 16, 17, 18, 19, 20, 21, 22, 23, 24, 25] rfl rfl (by decide) (by decide) (by decide) (c_Pile_add l dC dI cA (fun k => ad (k + 8)) _ PM 0 x (-1) (by exact hz)) (cwV 3 hts (lm_gV m_9_10 m_9_11 m_9_12 m_0_3 m_9_13) rfl rfl rfl (by decide +kernel) ⟨Nat.le_of_ble_eq_true rfl, Nat.le_of_ble_eq_true rfl⟩) (va_recv (q0 := 8) hK hP rfl rfl) lm_bl_no (fun _ _ _ => trivial) hl.1 rfl rfl (Nat.le_of_ble_eq_true rfl) d_LazyMachine_ask_89 ⟨Nat.le_of_ble_eq_true rfl, Nat.le_of_ble_eq_true rfl⟩ (fun u89 H locs w89 hP hD hS => ?_)
        have hP : va_P (dC, dI) classes (lz_W cA ad ((ss, sp, (fo + 1), ba, no, en, vs, vf, vg), u69, u89, XM, YM)) H := hP.sub [0, 1, 2, 3, 4, 5, 6, 7, 22, 23, 24, 25, 8, 9, 10, 11, 12, 13, 14, 15, 16, 17, 18, 19, 20, 21] rfl
        have hD : va_D A (lz_W cA ad ((ss, sp, (fo + 1), ba, no, en, vs, vf, vg), u69, u89, XM, YM)) := hD.sub [0, 1, 2, 3, 4, 5, 6, 7, 22, 23, 24, 25, 8, 9, 10, 11, 12, 13, 14, 15, 16, 17, 18, 19, 20, 21] (by decide) rfl
        refine lv_aload_n hx hb d_LazyMachine_ask_92 rfl (lv_at hl 3 rfl) ?_
        refine lv_iload_n hx hb d_LazyMachine_ask_93 rfl (lv_at hl 1 rfl) ?_
        refine lv_iload hx hb d_LazyMachine_ask_94 (lv_at hl 0 rfl) ?_
        refine lm_vv (b := ad 0) (As := [.int r21, .int r30]) (rest := []) (wr := ([] : va_W)) ⟨hx, hb, hml, hown, hts⟩ hK hP hD hS hA [0, 1, 2, 3, 4, 5, 6, 7, 8, 9, 10, 11, 12, 13, 14, 15, 16, 17, 18, 19, 20, 21, 22, 23, 24, 25] [] rfl rfl (by decide) (by decide) (by decide) (c_LazyMachine_enter l dC dI cA ad _ ((ss, sp, (fo + 1), ba, no, en, vs, vf, vg), u69, u89, XM, YM) r21 r30 ) (cwV 2 hts (lm_gV m_4_9 m_4_10 m_19_6 m_0_1 m_4_11) rfl rfl rfl (by decide +kernel) ⟨Nat.le_of_ble_eq_true rfl, Nat.le_of_ble_eq_true rfl⟩) (va_recv (q0 := 0) hK hP rfl rfl) lm_bl_no (fun _ _ _ => trivial) hl.1 rfl rfl (Nat.le_of_ble_eq_true rfl) d_LazyMachine_ask_96 ⟨Nat.le_of_ble_eq_true rfl, Nat.le_of_ble_eq_true rfl⟩ (fun u96 H locs w96 hP hD hS => ?_)
        have w96 : u96 = ((ss, sp, (fo + 1), 0, r21, r30, vs, vf, vg), u69, u89, XM, YM) := w96
        subst w96
        have hP : va_P (dC, dI) classes (lz_W cA ad ((ss, sp, (fo + 1), 0, r21, r30, vs, vf, vg), u69, u89, XM, YM)) H := hP
        have hD : va_D A (lz_W cA ad ((ss, sp, (fo + 1), 0, r21, r30, vs, vf, vg), u69, u89, XM, YM)) := hD
        refine lv_iconst (v := 1) hx hb d_LazyMachine_ask_99 (by decide) ?_
        refine lm_ri (v := 1) hx hb hr hlocks ((ss, sp, (fo + 1), 0, r21, r30, vs, vf, vg), u69, u89, XM, YM) ?_ hP hK hD hS d_LazyMachine_ask_100
        subst e_r5 e_r21 e_r30 e_r53 w69 w89; unfold ma_ask; (first | rw [if_pos h11] | rw [if_neg h11]); (first | rw [if_pos h37] | rw [if_neg h37]); (first | rw [if_pos h56] | rw [if_neg h56]); exact ⟨rfl, rfl⟩
      · refine lv_iconst (v := 5) hx hb d_LazyMachine_ask_59 (by decide) ?_
        refine lm_ri (v := 5) hx hb hr hlocks ((ss, sp, fo, ba, no, en, vs, vf, vg), SM, PM, XM, YM) ?_ hP hK hD hS d_LazyMachine_ask_60
        subst e_r5 e_r21 e_r30 e_r53; unfold ma_ask; (first | rw [if_pos h11] | rw [if_neg h11]); (first | rw [if_pos h37] | rw [if_neg h37]); (first | rw [if_pos h56] | rw [if_neg h56]); exact ⟨rfl, rfl⟩
    · refine lv_aload_n hx hb d_LazyMachine_ask_40 rfl (lv_at hl 3 rfl) ?_
      refine lv_iload_n hx hb d_LazyMachine_ask_41 rfl (lv_at hl 2 rfl) ?_
      refine lv_iload_n hx hb d_LazyMachine_ask_42 rfl (lv_at hl 1 rfl) ?_
      refine lv_iload hx hb d_LazyMachine_ask_43 (lv_at hl 0 rfl) ?_
      refine lm_vi (b := ad 0) (As := [.int r5, .int r21, .int r30]) (rest := []) (wr := ([] : va_W)) ⟨hx, hb, hml, hown, hts⟩ hK hP hD hS hA [0, 1, 2, 3, 4, 5, 6, 7, 8, 9, 10, 11, 12, 13, 14, 15, 16, 17, 18, 19, 20, 21, 22, 23, 24, 25] [] rfl rfl (by decide) (by decide) (by decide) (c_LazyMachine_backWith l dC dI cA ad _ ((ss, sp, fo, ba, no, en, vs, vf, vg), SM, PM, XM, YM) r5 r21 r30 ) (cwV 3 hts (lm_gV m_10_7 m_10_8 m_19_14 m_0_1 m_10_9) rfl rfl rfl (by decide +kernel) ⟨Nat.le_of_ble_eq_true rfl, Nat.le_of_ble_eq_true rfl⟩) (va_recv (q0 := 0) hK hP rfl rfl) lm_bl_no (fun _ _ _ => trivial) hl.1 rfl rfl (Nat.le_of_ble_eq_true rfl) d_LazyMachine_ask_45 ⟨Nat.le_of_ble_eq_true rfl, Nat.le_of_ble_eq_true rfl⟩ (fun r45 u45 H locs w45 hP hD hS => ?_)
      obtain ⟨e_r45, w45⟩ := w45
      replace e_r45 := e_r45.symm
      subst e_r45
      have w45 : u45 = ((ss, sp, fo, 1, no, en, r5, r21, r30), SM, PM, XM, YM) := w45
      subst w45
      have hP : va_P (dC, dI) classes (lz_W cA ad ((ss, sp, fo, 1, no, en, r5, r21, r30), SM, PM, XM, YM)) H := hP
      have hD : va_D A (lz_W cA ad ((ss, sp, fo, 1, no, en, r5, r21, r30), SM, PM, XM, YM)) := hD
      refine lm_ri (v := 1) hx hb hr hlocks ((ss, sp, fo, 1, no, en, r5, r21, r30), SM, PM, XM, YM) ?_ hP hK hD hS d_LazyMachine_ask_48
      subst e_r5 e_r21 e_r30; unfold ma_ask; (first | rw [if_pos h11] | rw [if_neg h11]); (first | rw [if_pos h37] | rw [if_neg h37]); exact ⟨rfl, rfl⟩
  · refine lv_iconst (v := 4) hx hb d_LazyMachine_ask_14 (by decide) ?_
    refine lm_ri (v := 4) hx hb hr hlocks ((ss, sp, fo, ba, no, en, vs, vf, vg), SM, PM, XM, YM) ?_ hP hK hD hS d_LazyMachine_ask_15
    subst e_r5; unfold ma_ask; (first | rw [if_pos h11] | rw [if_neg h11]); exact ⟨rfl, rfl⟩
set_option maxHeartbeats 4000000 in
set_option maxRecDepth 100000 in
theorem c_LazyMachine_stepUnder (l : Launch) (dC : Nat → ClassId) (dI : Nat → Nat → Nat) (cA : ClassId)  (ad : Nat → Nat) (sz : Nat) (M : ZMS) (x1 x2 x3 : Int32) (hz : pl_ok (m_P M)) (hn : vp_in (l_no M) 200) : Met l y_LazyMachine_stepUnder w_LazyMachine_stepUnder ({ frames := 2, cells := 0, slots := 0, locals := 43 } : Room) (va_Pc [.ref (ad 0), .int x1, .int x2, .int x3] (lm_pre (dC, dI) classes [(cA, .int)] (lz_W cA ad M) sz lm_no)) (va_Qi (fun (r : Int32) (u : ZMS) => r = (ma_under M x1 x2 x3).1 ∧ u = (ma_under M x1 x2 x3).2) (fun u => lm_at (dC, dI) classes [(cA, .int)] (va_A (lz_W cA ad M) sz) (lz_W cA ad u)) (va_A (lz_W cA ad M) sz)) 0 0 (va_A (lz_W cA ad M) sz) := by
  obtain ⟨⟨ss, sp, fo, ba, no, en, vs, vf, vg⟩, SM, PM, XM, YM⟩ := M
  refine lm_met (fun A => va_Qi (fun (r : Int32) (u : ZMS) => r = (ma_under ((ss, sp, fo, ba, no, en, vs, vf, vg), SM, PM, XM, YM) x1 x2 x3).1 ∧ u = (ma_under ((ss, sp, fo, ba, no, en, vs, vf, vg), SM, PM, XM, YM) x1 x2 x3).2) (fun u => lm_at (dC, dI) classes [(cA, .int)] A (lz_W cA ad u)) A) (by decide) rfl (Nat.le_of_ble_eq_true rfl) ?_
  intro p e s m below meth c A hx hb hr hts hown hlocks hname hml hK hP hD hA hE hsz hAe hS ls hl
  replace hl : lv_has ls 4 [(0, .ref (ad 0)), (1, .int x1), (2, .int x2), (3, .int x3)] := hl
  clear hAe hsz
  refine lv_aload_n hx hb d_LazyMachine_stepUnder_0 rfl (lv_at hl 0 rfl) ?_
  refine va_get (D := (dC, dI)) (ci := 0) (v := .ref (ad 8)) (C := R_LazyMachine) (T := F_LazyMachine) (N := 13) hx hb hts (fun q hq => List.mem_cons_of_mem _ (i_LazyMachine q hq)) hown hK hP 0 rfl rfl 1 (by decide) (hts _ (List.mem_cons_of_mem _ m_2_8)) (fun _ h9 => h9) rfl d_LazyMachine_stepUnder_1 ?_
  refine lm_vi (b := ad 8) (As := []) (rest := []) (wr := (ma_W cA ad (ss, sp, fo, ba, no, en, vs, vf, vg)) ++ (hp_W cA (fun k => ad (k + 1)) SM) ++ (tm_W cA (fun k => ad (k + 12)) XM) ++ (tm_W cA (fun k => ad (k + 19)) YM)) ⟨hx, hb, hml, hown, hts⟩ hK hP hD hS hA [8, 9, 10, 11] [0, 1, 2, 3, 4, 5, 6, 7, 12, 13, 14, 15, 16, 17, 18, 19, 20, 21, 22, 23, 24, 25] rfl rfl (by decide) (by decide) (by decide) (c_Pile_isFull l dC dI cA (fun k => ad (k + 8)) _ PM  ) (cwV 0 hts (lm_gV m_11_7 m_9_15 m_9_16 m_0_3 m_9_17) rfl rfl rfl (by decide +kernel) ⟨Nat.le_of_ble_eq_true rfl, Nat.le_of_ble_eq_true rfl⟩) (va_recv (q0 := 8) hK hP rfl rfl) lm_bl_no (fun _ _ _ => trivial) hl.1 rfl rfl (Nat.le_of_ble_eq_true rfl) d_LazyMachine_stepUnder_4 ⟨Nat.le_of_ble_eq_true rfl, Nat.le_of_ble_eq_true rfl⟩ (fun r4 u4 H locs w4 hP hD hS => ?_)
  obtain ⟨e_r4, w4⟩ := w4
  replace w4 := w4.symm
  subst w4
  have hP : va_P (dC, dI) classes (lz_W cA ad ((ss, sp, fo, ba, no, en, vs, vf, vg), SM, PM, XM, YM)) H := hP.sub [0, 1, 2, 3, 4, 5, 6, 7, 22, 23, 24, 25, 8, 9, 10, 11, 12, 13, 14, 15, 16, 17, 18, 19, 20, 21] rfl
  have hD : va_D A (lz_W cA ad ((ss, sp, fo, ba, no, en, vs, vf, vg), SM, PM, XM, YM)) := hD.sub [0, 1, 2, 3, 4, 5, 6, 7, 22, 23, 24, 25, 8, 9, 10, 11, 12, 13, 14, 15, 16, 17, 18, 19, 20, 21] (by decide) rfl
  refine lv_if_eq hx hb d_LazyMachine_stepUnder_7 rfl (fun h7 => ?_) (fun h7 => ?_)
  · refine lv_aload_n hx hb d_LazyMachine_stepUnder_12 rfl (lv_at hl 0 rfl) ?_
    refine va_get (D := (dC, dI)) (ci := 0) (v := .ref (ad 8)) (C := R_LazyMachine) (T := F_LazyMachine) (N := 13) hx hb hts (fun q hq => List.mem_cons_of_mem _ (i_LazyMachine q hq)) hown hK hP 0 rfl rfl 1 (by decide) (hts _ (List.mem_cons_of_mem _ m_2_8)) (fun _ h9 => h9) rfl d_LazyMachine_stepUnder_13 ?_
    refine lv_iload_n hx hb d_LazyMachine_stepUnder_16 rfl (lv_at hl 1 rfl) ?_
    refine lv_iload_n hx hb d_LazyMachine_stepUnder_17 rfl (lv_at hl 2 rfl) ?_
    refine lv_iload_n hx hb d_LazyMachine_stepUnder_18 rfl (lv_at hl 3 rfl) ?_
    refine lm_vv (b := ad 8) (As := [.int x1, .int x2, .int x3]) (rest := []) (wr := (ma_W cA ad (ss, sp, fo, ba, no, en, vs, vf, vg)) ++ (hp_W cA (fun k => ad (k + 1)) SM) ++ (tm_W cA (fun k => ad (k + 12)) XM) ++ (tm_W cA (fun k => ad (k + 19)) YM)) ⟨hx, hb, hml, hown, hts⟩ hK hP hD hS hA [8, 9, 10, 11] [0, 1, 2, 3, 4, 5, 6, 7, 12, 13, 14, 15, 16, 17, 18, 19, 20, 21, 22, 23, 24, 25] rfl rfl (by decide) (by decide) (by decide) (c_Pile_add l dC dI cA (fun k => ad (k + 8)) _ PM x1 x2 x3 (by exact hz)) (cwV 3 hts (lm_gV m_9_10 m_9_11 m_9_12 m_0_3 m_9_13) rfl rfl rfl (by decide +kernel) ⟨Nat.le_of_ble_eq_true rfl, Nat.le_of_ble_eq_true rfl⟩) (va_recv (q0 := 8) hK hP rfl rfl) lm_bl_no (fun _ _ _ => trivial) hl.1 rfl rfl (Nat.le_of_ble_eq_true rfl) d_LazyMachine_stepUnder_19 ⟨Nat.le_of_ble_eq_true rfl, Nat.le_of_ble_eq_true rfl⟩ (fun u19 H locs w19 hP hD hS => ?_)
    have hP : va_P (dC, dI) classes (lz_W cA ad ((ss, sp, fo, ba, no, en, vs, vf, vg), SM, u19, XM, YM)) H := hP.sub [0, 1, 2, 3, 4, 5, 6, 7, 22, 23, 24, 25, 8, 9, 10, 11, 12, 13, 14, 15, 16, 17, 18, 19, 20, 21] rfl
    have hD : va_D A (lz_W cA ad ((ss, sp, fo, ba, no, en, vs, vf, vg), SM, u19, XM, YM)) := hD.sub [0, 1, 2, 3, 4, 5, 6, 7, 22, 23, 24, 25, 8, 9, 10, 11, 12, 13, 14, 15, 16, 17, 18, 19, 20, 21] (by decide) rfl
    refine lv_aload_n hx hb d_LazyMachine_stepUnder_22 rfl (lv_at hl 0 rfl) ?_
    refine lv_aload_n hx hb d_LazyMachine_stepUnder_23 rfl (lv_at hl 0 rfl) ?_
    refine va_get (D := (dC, dI)) (ci := 0) (v := .ref (ad 19)) (C := R_LazyMachine) (T := F_LazyMachine) (N := 13) hx hb hts (fun q hq => List.mem_cons_of_mem _ (i_LazyMachine q hq)) hown hK hP 0 rfl rfl 3 (by decide) (hts _ (List.mem_cons_of_mem _ m_2_10)) (fun _ h9 => h9) rfl d_LazyMachine_stepUnder_24 ?_
    refine lv_aload_n hx hb d_LazyMachine_stepUnder_27 rfl (lv_at hl 0 rfl) ?_
    refine va_get (D := (dC, dI)) (ci := 0) (v := .int no) (C := R_LazyMachine) (T := F_LazyMachine) (N := 13) hx hb hts (fun q hq => List.mem_cons_of_mem _ (i_LazyMachine q hq)) hown hK hP 0 rfl rfl 8 (by decide) (hts _ (List.mem_cons_of_mem _ m_2_15)) (fun _ h9 => h9) rfl d_LazyMachine_stepUnder_28 ?_
    refine lv_iconst (v := 0) hx hb d_LazyMachine_stepUnder_31 (by decide) ?_
    refine lm_vi (b := ad 19) (As := [.int no, .int 0]) (rest := [.ref (ad 0)]) (wr := (ma_W cA ad (ss, sp, fo, ba, no, en, vs, vf, vg)) ++ (hp_W cA (fun k => ad (k + 1)) SM) ++ (pl_W cA (fun k => ad (k + 8)) u19) ++ (tm_W cA (fun k => ad (k + 12)) XM)) ⟨hx, hb, hml, hown, hts⟩ hK hP hD hS hA [19, 20, 21, 22, 23, 24, 25] [0, 1, 2, 3, 4, 5, 6, 7, 8, 9, 10, 11, 12, 13, 14, 15, 16, 17, 18] rfl rfl (by decide) (by decide) (by decide) (c_Term_part l dC dI cA (fun k => ad (k + 19)) _ YM no 0 (by exact nd_ix hn (w := 0) (by decide))) (cwV 2 hts (lm_gV m_8_18 m_8_19 m_8_20 m_0_4 m_8_21) rfl rfl rfl (by decide +kernel) ⟨Nat.le_of_ble_eq_true rfl, Nat.le_of_ble_eq_true rfl⟩) (va_recv (q0 := 19) hK hP rfl rfl) lm_bl_no (fun _ _ _ => trivial) hl.1 rfl rfl (Nat.le_of_ble_eq_true rfl) d_LazyMachine_stepUnder_32 ⟨Nat.le_of_ble_eq_true rfl, Nat.le_of_ble_eq_true rfl⟩ (fun r32 u32 H locs w32 hP hD hS => ?_)
    obtain ⟨e_r32, w32⟩ := w32
    replace w32 := w32.symm
    subst w32
    have hP : va_P (dC, dI) classes (lz_W cA ad ((ss, sp, fo, ba, no, en, vs, vf, vg), SM, u19, XM, YM)) H := hP
    have hD : va_D A (lz_W cA ad ((ss, sp, fo, ba, no, en, vs, vf, vg), SM, u19, XM, YM)) := hD
    refine lv_aload_n hx hb d_LazyMachine_stepUnder_35 rfl (lv_at hl 0 rfl) ?_
    refine va_get (D := (dC, dI)) (ci := 0) (v := .int en) (C := R_LazyMachine) (T := F_LazyMachine) (N := 13) hx hb hts (fun q hq => List.mem_cons_of_mem _ (i_LazyMachine q hq)) hown hK hP 0 rfl rfl 9 (by decide) (hts _ (List.mem_cons_of_mem _ m_2_16)) (fun _ h9 => h9) rfl d_LazyMachine_stepUnder_36 ?_
    refine lm_vv (b := ad 0) (As := [.int r32, .int en]) (rest := []) (wr := ([] : va_W)) ⟨hx, hb, hml, hown, hts⟩ hK hP hD hS hA [0, 1, 2, 3, 4, 5, 6, 7, 8, 9, 10, 11, 12, 13, 14, 15, 16, 17, 18, 19, 20, 21, 22, 23, 24, 25] [] rfl rfl (by decide) (by decide) (by decide) (c_LazyMachine_enter l dC dI cA ad _ ((ss, sp, fo, ba, no, en, vs, vf, vg), SM, u19, XM, YM) r32 en ) (cwV 2 hts (lm_gV m_4_9 m_4_10 m_19_6 m_0_1 m_4_11) rfl rfl rfl (by decide +kernel) ⟨Nat.le_of_ble_eq_true rfl, Nat.le_of_ble_eq_true rfl⟩) (va_recv (q0 := 0) hK hP rfl rfl) lm_bl_no (fun _ _ _ => trivial) hl.1 rfl rfl (Nat.le_of_ble_eq_true rfl) d_LazyMachine_stepUnder_39 ⟨Nat.le_of_ble_eq_true rfl, Nat.le_of_ble_eq_true rfl⟩ (fun u39 H locs w39 hP hD hS => ?_)
    have w39 : u39 = ((ss, sp, fo, 0, r32, en, vs, vf, vg), SM, u19, XM, YM) := w39
    subst w39
    have hP : va_P (dC, dI) classes (lz_W cA ad ((ss, sp, fo, 0, r32, en, vs, vf, vg), SM, u19, XM, YM)) H := hP
    have hD : va_D A (lz_W cA ad ((ss, sp, fo, 0, r32, en, vs, vf, vg), SM, u19, XM, YM)) := hD
    refine lv_iconst (v := 1) hx hb d_LazyMachine_stepUnder_42 (by decide) ?_
    refine lm_ri (v := 1) hx hb hr hlocks ((ss, sp, fo, 0, r32, en, vs, vf, vg), SM, u19, XM, YM) ?_ hP hK hD hS d_LazyMachine_stepUnder_43
    subst e_r4 w19 e_r32; unfold ma_under; (first | rw [if_pos h7] | rw [if_neg h7]); exact ⟨rfl, rfl⟩
  · refine lv_iconst (v := 5) hx hb d_LazyMachine_stepUnder_10 (by decide) ?_
    refine lm_ri (v := 5) hx hb hr hlocks ((ss, sp, fo, ba, no, en, vs, vf, vg), SM, PM, XM, YM) ?_ hP hK hD hS d_LazyMachine_stepUnder_11
    subst e_r4; unfold ma_under; (first | rw [if_pos h7] | rw [if_neg h7]); exact ⟨rfl, rfl⟩
set_option maxHeartbeats 4000000 in
set_option maxRecDepth 100000 in
theorem c_LazyMachine_stepApply (l : Launch) (dC : Nat → ClassId) (dI : Nat → Nat → Nat) (cA : ClassId)  (ad : Nat → Nat) (sz : Nat) (M : ZMS)  (hi : ma_lo M) (ht : tm_lo (m_Y M)) (hn : vp_in (l_no M) 200) (he : hp_c (l_en M)) : Met l y_LazyMachine_stepApply w_LazyMachine_stepApply ({ frames := 4, cells := 0, slots := 0, locals := 87 } : Room) (va_Pc [.ref (ad 0)] (lm_pre (dC, dI) classes [(cA, .int)] (lz_W cA ad M) sz lm_no)) (va_Qi (fun (r : Int32) (u : ZMS) => r = (ma_apply1 M).1 ∧ u = (ma_apply1 M).2) (fun u => lm_at (dC, dI) classes [(cA, .int)] (va_A (lz_W cA ad M) sz) (lz_W cA ad u)) (va_A (lz_W cA ad M) sz)) 0 0 (va_A (lz_W cA ad M) sz) := by
  obtain ⟨⟨ss, sp, fo, ba, no, en, vs, vf, vg⟩, SM, PM, XM, YM⟩ := M
  refine lm_met (fun A => va_Qi (fun (r : Int32) (u : ZMS) => r = (ma_apply1 ((ss, sp, fo, ba, no, en, vs, vf, vg), SM, PM, XM, YM)).1 ∧ u = (ma_apply1 ((ss, sp, fo, ba, no, en, vs, vf, vg), SM, PM, XM, YM)).2) (fun u => lm_at (dC, dI) classes [(cA, .int)] A (lz_W cA ad u)) A) (by decide) rfl (Nat.le_of_ble_eq_true rfl) ?_
  intro p e s m below meth c A hx hb hr hts hown hlocks hname hml hK hP hD hA hE hsz hAe hS ls hl
  replace hl : lv_has ls 2 [(0, .ref (ad 0))] := hl
  clear hAe hsz
  refine lv_aload_n hx hb d_LazyMachine_stepApply_0 rfl (lv_at hl 0 rfl) ?_
  refine va_get (D := (dC, dI)) (ci := 0) (v := .ref (ad 8)) (C := R_LazyMachine) (T := F_LazyMachine) (N := 13) hx hb hts (fun q hq => List.mem_cons_of_mem _ (i_LazyMachine q hq)) hown hK hP 0 rfl rfl 1 (by decide) (hts _ (List.mem_cons_of_mem _ m_2_8)) (fun _ h9 => h9) rfl d_LazyMachine_stepApply_1 ?_
  refine lm_vi (b := ad 8) (As := []) (rest := []) (wr := (ma_W cA ad (ss, sp, fo, ba, no, en, vs, vf, vg)) ++ (hp_W cA (fun k => ad (k + 1)) SM) ++ (tm_W cA (fun k => ad (k + 12)) XM) ++ (tm_W cA (fun k => ad (k + 19)) YM)) ⟨hx, hb, hml, hown, hts⟩ hK hP hD hS hA [8, 9, 10, 11] [0, 1, 2, 3, 4, 5, 6, 7, 12, 13, 14, 15, 16, 17, 18, 19, 20, 21, 22, 23, 24, 25] rfl rfl (by decide) (by decide) (by decide) (c_Pile_isFull l dC dI cA (fun k => ad (k + 8)) _ PM  ) (cwV 0 hts (lm_gV m_11_7 m_9_15 m_9_16 m_0_3 m_9_17) rfl rfl rfl (by decide +kernel) ⟨Nat.le_of_ble_eq_true rfl, Nat.le_of_ble_eq_true rfl⟩) (va_recv (q0 := 8) hK hP rfl rfl) lm_bl_no (fun _ _ _ => trivial) hl.1 rfl rfl (Nat.le_of_ble_eq_true rfl) d_LazyMachine_stepApply_4 ⟨Nat.le_of_ble_eq_true rfl, Nat.le_of_ble_eq_true rfl⟩ (fun r4 u4 H locs w4 hP hD hS => ?_)
  obtain ⟨e_r4, w4⟩ := w4
  replace w4 := w4.symm
  subst w4
  have hP : va_P (dC, dI) classes (lz_W cA ad ((ss, sp, fo, ba, no, en, vs, vf, vg), SM, PM, XM, YM)) H := hP.sub [0, 1, 2, 3, 4, 5, 6, 7, 22, 23, 24, 25, 8, 9, 10, 11, 12, 13, 14, 15, 16, 17, 18, 19, 20, 21] rfl
  have hD : va_D A (lz_W cA ad ((ss, sp, fo, ba, no, en, vs, vf, vg), SM, PM, XM, YM)) := hD.sub [0, 1, 2, 3, 4, 5, 6, 7, 22, 23, 24, 25, 8, 9, 10, 11, 12, 13, 14, 15, 16, 17, 18, 19, 20, 21] (by decide) rfl
  refine lv_if_eq hx hb d_LazyMachine_stepApply_7 rfl (fun h7 => ?_) (fun h7 => ?_)
  · refine lv_aload_n hx hb d_LazyMachine_stepApply_12 rfl (lv_at hl 0 rfl) ?_
    refine va_get (D := (dC, dI)) (ci := 0) (v := .ref (ad 19)) (C := R_LazyMachine) (T := F_LazyMachine) (N := 13) hx hb hts (fun q hq => List.mem_cons_of_mem _ (i_LazyMachine q hq)) hown hK hP 0 rfl rfl 3 (by decide) (hts _ (List.mem_cons_of_mem _ m_2_10)) (fun _ h9 => h9) rfl d_LazyMachine_stepApply_13 ?_
    refine lv_aload_n hx hb d_LazyMachine_stepApply_16 rfl (lv_at hl 0 rfl) ?_
    refine va_get (D := (dC, dI)) (ci := 0) (v := .int no) (C := R_LazyMachine) (T := F_LazyMachine) (N := 13) hx hb hts (fun q hq => List.mem_cons_of_mem _ (i_LazyMachine q hq)) hown hK hP 0 rfl rfl 8 (by decide) (hts _ (List.mem_cons_of_mem _ m_2_15)) (fun _ h9 => h9) rfl d_LazyMachine_stepApply_17 ?_
    refine lv_iconst (v := 1) hx hb d_LazyMachine_stepApply_20 (by decide) ?_
    refine lm_vi (b := ad 19) (As := [.int no, .int 1]) (rest := []) (wr := (ma_W cA ad (ss, sp, fo, ba, no, en, vs, vf, vg)) ++ (hp_W cA (fun k => ad (k + 1)) SM) ++ (pl_W cA (fun k => ad (k + 8)) PM) ++ (tm_W cA (fun k => ad (k + 12)) XM)) ⟨hx, hb, hml, hown, hts⟩ hK hP hD hS hA [19, 20, 21, 22, 23, 24, 25] [0, 1, 2, 3, 4, 5, 6, 7, 8, 9, 10, 11, 12, 13, 14, 15, 16, 17, 18] rfl rfl (by decide) (by decide) (by decide) (c_Term_part l dC dI cA (fun k => ad (k + 19)) _ YM no 1 (by exact nd_ix hn (w := 1) (by decide))) (cwV 2 hts (lm_gV m_8_18 m_8_19 m_8_20 m_0_4 m_8_21) rfl rfl rfl (by decide +kernel) ⟨Nat.le_of_ble_eq_true rfl, Nat.le_of_ble_eq_true rfl⟩) (va_recv (q0 := 19) hK hP rfl rfl) lm_bl_no (fun _ _ _ => trivial) hl.1 rfl rfl (Nat.le_of_ble_eq_true rfl) d_LazyMachine_stepApply_21 ⟨Nat.le_of_ble_eq_true rfl, Nat.le_of_ble_eq_true rfl⟩ (fun r21 u21 H locs w21 hP hD hS => ?_)
    obtain ⟨e_r21, w21⟩ := w21
    replace w21 := w21.symm
    subst w21
    have hP : va_P (dC, dI) classes (lz_W cA ad ((ss, sp, fo, ba, no, en, vs, vf, vg), SM, PM, XM, YM)) H := hP
    have hD : va_D A (lz_W cA ad ((ss, sp, fo, ba, no, en, vs, vf, vg), SM, PM, XM, YM)) := hD
    refine lv_istore_n (lv' := [(1, .int r21), (0, .ref (ad 0))]) hx hb d_LazyMachine_stepApply_24 rfl hl (by decide) rfl (fun ls hl => ?_)
    refine lv_aload_n hx hb d_LazyMachine_stepApply_25 rfl (lv_at hl 1 rfl) ?_
    refine lv_aload_n hx hb d_LazyMachine_stepApply_26 rfl (lv_at hl 1 rfl) ?_
    refine lv_iload_n hx hb d_LazyMachine_stepApply_27 rfl (lv_at hl 0 rfl) ?_
    refine lm_vi (b := ad 0) (As := [.int r21]) (rest := [.ref (ad 0)]) (wr := ([] : va_W)) ⟨hx, hb, hml, hown, hts⟩ hK hP hD hS hA [0, 1, 2, 3, 4, 5, 6, 7, 8, 9, 10, 11, 12, 13, 14, 15, 16, 17, 18, 19, 20, 21, 22, 23, 24, 25] [] rfl rfl (by decide) (by decide) (by decide) (c_LazyMachine_cellsFor l dC dI cA ad _ ((ss, sp, fo, ba, no, en, vs, vf, vg), SM, PM, XM, YM) r21 (by rw [e_r21]; exact nd_part ht hn (w := 1) (by decide))) (cwV 1 hts (lm_gV m_11_23 m_12_0 m_19_20 m_0_1 m_12_1) rfl rfl rfl (by decide +kernel) ⟨Nat.le_of_ble_eq_true rfl, Nat.le_of_ble_eq_true rfl⟩) (va_recv (q0 := 0) hK hP rfl rfl) lm_bl_no (fun _ _ _ => trivial) hl.1 rfl rfl (Nat.le_of_ble_eq_true rfl) d_LazyMachine_stepApply_28 ⟨Nat.le_of_ble_eq_true rfl, Nat.le_of_ble_eq_true rfl⟩ (fun r28 u28 H locs w28 hP hD hS => ?_)
    obtain ⟨e_r28, w28⟩ := w28
    replace w28 := w28.symm
    subst w28
    have hP : va_P (dC, dI) classes (lz_W cA ad ((ss, sp, fo, ba, no, en, vs, vf, vg), SM, PM, XM, YM)) H := hP
    have hD : va_D A (lz_W cA ad ((ss, sp, fo, ba, no, en, vs, vf, vg), SM, PM, XM, YM)) := hD
    refine lm_vi (b := ad 0) (As := [.int r28]) (rest := []) (wr := ([] : va_W)) ⟨hx, hb, hml, hown, hts⟩ hK hP hD hS hA [0, 1, 2, 3, 4, 5, 6, 7, 8, 9, 10, 11, 12, 13, 14, 15, 16, 17, 18, 19, 20, 21, 22, 23, 24, 25] [] rfl rfl (by decide) (by decide) (by decide) (c_LazyMachine_hasRoomFor l dC dI cA ad _ ((ss, sp, fo, ba, no, en, vs, vf, vg), SM, PM, XM, YM) r28 (by exact hi)) (cwV 1 hts (lm_gV m_8_7 m_8_8 m_19_10 m_0_1 m_8_9) rfl rfl rfl (by decide +kernel) ⟨Nat.le_of_ble_eq_true rfl, Nat.le_of_ble_eq_true rfl⟩) (va_recv (q0 := 0) hK hP rfl rfl) lm_bl_no (fun _ _ _ => trivial) hl.1 rfl rfl (Nat.le_of_ble_eq_true rfl) d_LazyMachine_stepApply_31 ⟨Nat.le_of_ble_eq_true rfl, Nat.le_of_ble_eq_true rfl⟩ (fun r31 u31 H locs w31 hP hD hS => ?_)
    obtain ⟨e_r31, w31⟩ := w31
    have hP : va_P (dC, dI) classes (lz_W cA ad u31) H := hP
    have hD : va_D A (lz_W cA ad u31) := hD
    refine lv_if_ne hx hb d_LazyMachine_stepApply_34 rfl (fun h34 => ?_) (fun h34 => ?_)
    · refine lv_aload_n hx hb d_LazyMachine_stepApply_40 rfl (lv_at hl 1 rfl) ?_
      refine lv_iconst (v := 1) hx hb d_LazyMachine_stepApply_41 (by decide) ?_
      refine lv_aload_n hx hb d_LazyMachine_stepApply_42 rfl (lv_at hl 1 rfl) ?_
      refine lv_iload_n hx hb d_LazyMachine_stepApply_43 rfl (lv_at hl 0 rfl) ?_
      refine lm_vi (b := ad 0) (As := [.int r21]) (rest := [.int 1, .ref (ad 0)]) (wr := ([] : va_W)) ⟨hx, hb, hml, hown, hts⟩ hK hP hD hS hA [0, 1, 2, 3, 4, 5, 6, 7, 8, 9, 10, 11, 12, 13, 14, 15, 16, 17, 18, 19, 20, 21, 22, 23, 24, 25] [] rfl rfl (by decide) (by decide) (by decide) (c_LazyMachine_thunkFor l dC dI cA ad _ u31 r21 (by rw [e_r21]; exact nd_part ht hn (w := 1) (by decide)) (by rw [w31]; exact (th_room hi ht he).1) (by rw [w31]; exact (th_room hi ht he).2.1) (by rw [w31]; exact (th_room hi ht he).2.2.1) (by rw [w31]; exact (th_room hi ht he).2.2.2)) (cwV 1 hts (lm_gV m_12_2 m_12_3 m_19_21 m_0_1 m_12_4) rfl rfl rfl (by decide +kernel) ⟨Nat.le_of_ble_eq_true rfl, Nat.le_of_ble_eq_true rfl⟩) (va_recv (q0 := 0) hK hP rfl rfl) lm_bl_no (fun _ _ _ => trivial) hl.1 rfl rfl (Nat.le_of_ble_eq_true rfl) d_LazyMachine_stepApply_44 ⟨Nat.le_of_ble_eq_true rfl, Nat.le_of_ble_eq_true rfl⟩ (fun r44 u44 H locs w44 hP hD hS => ?_)
      obtain ⟨e_r44, w44⟩ := w44
      have hP : va_P (dC, dI) classes (lz_W cA ad u44) H := hP
      have hD : va_D A (lz_W cA ad u44) := hD
      refine lv_iconst (v := -1) hx hb d_LazyMachine_stepApply_47 (by decide) ?_
      refine lm_vi (b := ad 0) (As := [.int 1, .int r44, .int (-1)]) (rest := []) (wr := ([] : va_W)) ⟨hx, hb, hml, hown, hts⟩ hK hP hD hS hA [0, 1, 2, 3, 4, 5, 6, 7, 8, 9, 10, 11, 12, 13, 14, 15, 16, 17, 18, 19, 20, 21, 22, 23, 24, 25] [] rfl rfl (by decide) (by decide) (by decide) (c_LazyMachine_stepUnder l dC dI cA ad _ u44 1 r44 (-1) (by rw [w44]; rw [ma_thunk_P, w31, ma_room_P]; exact hi.2.2.1) (by rw [w44]; rw [ma_thunk_no, w31, ma_room_no]; exact hn)) (cwV 3 hts (lm_gV m_12_5 m_12_6 m_19_22 m_0_1 m_12_7) rfl rfl rfl (by decide +kernel) ⟨Nat.le_of_ble_eq_true rfl, Nat.le_of_ble_eq_true rfl⟩) (va_recv (q0 := 0) hK hP rfl rfl) lm_bl_no (fun _ _ _ => trivial) hl.1 rfl rfl (Nat.le_of_ble_eq_true rfl) d_LazyMachine_stepApply_48 ⟨Nat.le_of_ble_eq_true rfl, Nat.le_of_ble_eq_true rfl⟩ (fun r48 u48 H locs w48 hP hD hS => ?_)
      obtain ⟨e_r48, w48⟩ := w48
      have hP : va_P (dC, dI) classes (lz_W cA ad u48) H := hP
      have hD : va_D A (lz_W cA ad u48) := hD
      refine lm_ri (v := r48) hx hb hr hlocks u48 ?_ hP hK hD hS d_LazyMachine_stepApply_51
      subst e_r4 e_r21 e_r28 e_r31 w31 e_r44 w44 e_r48 w48; unfold ma_apply1; (first | rw [if_pos h7] | rw [if_neg h7]); (first | rw [if_pos h34] | rw [if_neg h34]); exact ⟨rfl, rfl⟩
    · refine lv_bipush (v := 6) hx hb d_LazyMachine_stepApply_37 (by decide) ?_
      refine lm_ri (v := 6) hx hb hr hlocks u31 ?_ hP hK hD hS d_LazyMachine_stepApply_39
      subst e_r4 e_r21 e_r28 e_r31 w31; unfold ma_apply1; (first | rw [if_pos h7] | rw [if_neg h7]); (first | rw [if_pos h34] | rw [if_neg h34]); exact ⟨rfl, rfl⟩
  · refine lv_iconst (v := 5) hx hb d_LazyMachine_stepApply_10 (by decide) ?_
    refine lm_ri (v := 5) hx hb hr hlocks ((ss, sp, fo, ba, no, en, vs, vf, vg), SM, PM, XM, YM) ?_ hP hK hD hS d_LazyMachine_stepApply_11
    subst e_r4; unfold ma_apply1; (first | rw [if_pos h7] | rw [if_neg h7]); exact ⟨rfl, rfl⟩
set_option maxHeartbeats 4000000 in
set_option maxRecDepth 100000 in
theorem c_LazyMachine_stepFix (l : Launch) (dC : Nat → ClassId) (dI : Nat → Nat → Nat) (cA : ClassId)  (ad : Nat → Nat) (sz : Nat) (M : ZMS)  (hi : ma_lo M) (hn : vp_in (l_no M) 200) : Met l y_LazyMachine_stepFix w_LazyMachine_stepFix ({ frames := 4, cells := 0, slots := 0, locals := 87 } : Room) (va_Pc [.ref (ad 0)] (lm_pre (dC, dI) classes [(cA, .int)] (lz_W cA ad M) sz lm_no)) (va_Qi (fun (r : Int32) (u : ZMS) => r = (ma_fix M).1 ∧ u = (ma_fix M).2) (fun u => lm_at (dC, dI) classes [(cA, .int)] (va_A (lz_W cA ad M) sz) (lz_W cA ad u)) (va_A (lz_W cA ad M) sz)) 0 0 (va_A (lz_W cA ad M) sz) := by
  obtain ⟨⟨ss, sp, fo, ba, no, en, vs, vf, vg⟩, SM, PM, XM, YM⟩ := M
  refine lm_met (fun A => va_Qi (fun (r : Int32) (u : ZMS) => r = (ma_fix ((ss, sp, fo, ba, no, en, vs, vf, vg), SM, PM, XM, YM)).1 ∧ u = (ma_fix ((ss, sp, fo, ba, no, en, vs, vf, vg), SM, PM, XM, YM)).2) (fun u => lm_at (dC, dI) classes [(cA, .int)] A (lz_W cA ad u)) A) (by decide) rfl (Nat.le_of_ble_eq_true rfl) ?_
  intro p e s m below meth c A hx hb hr hts hown hlocks hname hml hK hP hD hA hE hsz hAe hS ls hl
  replace hl : lv_has ls 2 [(0, .ref (ad 0))] := hl
  clear hAe hsz
  refine lv_aload_n hx hb d_LazyMachine_stepFix_0 rfl (lv_at hl 0 rfl) ?_
  refine va_get (D := (dC, dI)) (ci := 0) (v := .ref (ad 8)) (C := R_LazyMachine) (T := F_LazyMachine) (N := 13) hx hb hts (fun q hq => List.mem_cons_of_mem _ (i_LazyMachine q hq)) hown hK hP 0 rfl rfl 1 (by decide) (hts _ (List.mem_cons_of_mem _ m_2_8)) (fun _ h9 => h9) rfl d_LazyMachine_stepFix_1 ?_
  refine lm_vi (b := ad 8) (As := []) (rest := []) (wr := (ma_W cA ad (ss, sp, fo, ba, no, en, vs, vf, vg)) ++ (hp_W cA (fun k => ad (k + 1)) SM) ++ (tm_W cA (fun k => ad (k + 12)) XM) ++ (tm_W cA (fun k => ad (k + 19)) YM)) ⟨hx, hb, hml, hown, hts⟩ hK hP hD hS hA [8, 9, 10, 11] [0, 1, 2, 3, 4, 5, 6, 7, 12, 13, 14, 15, 16, 17, 18, 19, 20, 21, 22, 23, 24, 25] rfl rfl (by decide) (by decide) (by decide) (c_Pile_isFull l dC dI cA (fun k => ad (k + 8)) _ PM  ) (cwV 0 hts (lm_gV m_11_7 m_9_15 m_9_16 m_0_3 m_9_17) rfl rfl rfl (by decide +kernel) ⟨Nat.le_of_ble_eq_true rfl, Nat.le_of_ble_eq_true rfl⟩) (va_recv (q0 := 8) hK hP rfl rfl) lm_bl_no (fun _ _ _ => trivial) hl.1 rfl rfl (Nat.le_of_ble_eq_true rfl) d_LazyMachine_stepFix_4 ⟨Nat.le_of_ble_eq_true rfl, Nat.le_of_ble_eq_true rfl⟩ (fun r4 u4 H locs w4 hP hD hS => ?_)
  obtain ⟨e_r4, w4⟩ := w4
  replace w4 := w4.symm
  subst w4
  have hP : va_P (dC, dI) classes (lz_W cA ad ((ss, sp, fo, ba, no, en, vs, vf, vg), SM, PM, XM, YM)) H := hP.sub [0, 1, 2, 3, 4, 5, 6, 7, 22, 23, 24, 25, 8, 9, 10, 11, 12, 13, 14, 15, 16, 17, 18, 19, 20, 21] rfl
  have hD : va_D A (lz_W cA ad ((ss, sp, fo, ba, no, en, vs, vf, vg), SM, PM, XM, YM)) := hD.sub [0, 1, 2, 3, 4, 5, 6, 7, 22, 23, 24, 25, 8, 9, 10, 11, 12, 13, 14, 15, 16, 17, 18, 19, 20, 21] (by decide) rfl
  refine lv_if_eq hx hb d_LazyMachine_stepFix_7 rfl (fun h7 => ?_) (fun h7 => ?_)
  · refine lv_aload_n hx hb d_LazyMachine_stepFix_12 rfl (lv_at hl 0 rfl) ?_
    refine lv_iconst (v := 2) hx hb d_LazyMachine_stepFix_13 (by decide) ?_
    refine lm_vi (b := ad 0) (As := [.int 2]) (rest := []) (wr := ([] : va_W)) ⟨hx, hb, hml, hown, hts⟩ hK hP hD hS hA [0, 1, 2, 3, 4, 5, 6, 7, 8, 9, 10, 11, 12, 13, 14, 15, 16, 17, 18, 19, 20, 21, 22, 23, 24, 25] [] rfl rfl (by decide) (by decide) (by decide) (c_LazyMachine_hasRoomFor l dC dI cA ad _ ((ss, sp, fo, ba, no, en, vs, vf, vg), SM, PM, XM, YM) 2 (by exact hi)) (cwV 1 hts (lm_gV m_8_7 m_8_8 m_19_10 m_0_1 m_8_9) rfl rfl rfl (by decide +kernel) ⟨Nat.le_of_ble_eq_true rfl, Nat.le_of_ble_eq_true rfl⟩) (va_recv (q0 := 0) hK hP rfl rfl) lm_bl_no (fun _ _ _ => trivial) hl.1 rfl rfl (Nat.le_of_ble_eq_true rfl) d_LazyMachine_stepFix_14 ⟨Nat.le_of_ble_eq_true rfl, Nat.le_of_ble_eq_true rfl⟩ (fun r14 u14 H locs w14 hP hD hS => ?_)
    obtain ⟨e_r14, w14⟩ := w14
    have hP : va_P (dC, dI) classes (lz_W cA ad u14) H := hP
    have hD : va_D A (lz_W cA ad u14) := hD
    refine lv_if_ne hx hb d_LazyMachine_stepFix_17 rfl (fun h17 => ?_) (fun h17 => ?_)
    · refine lv_aload_n hx hb d_LazyMachine_stepFix_23 rfl (lv_at hl 0 rfl) ?_
      refine va_get (D := (dC, dI)) (ci := 0) (v := .ref (ad 1)) (C := R_LazyMachine) (T := F_LazyMachine) (N := 13) hx hb hts (fun q hq => List.mem_cons_of_mem _ (i_LazyMachine q hq)) hown hK hP 0 rfl rfl 0 (by decide) (hts _ (List.mem_cons_of_mem _ m_2_7)) (fun _ h9 => h9) rfl d_LazyMachine_stepFix_24 ?_
      refine lv_iconst (v := 4) hx hb d_LazyMachine_stepFix_27 (by decide) ?_
      refine lv_iconst (v := -1) hx hb d_LazyMachine_stepFix_28 (by decide) ?_
      refine lv_iconst (v := -1) hx hb d_LazyMachine_stepFix_29 (by decide) ?_
      refine lm_vi (b := ad 1) (As := [.int 4, .int (-1), .int (-1)]) (rest := []) (wr := (ma_W cA ad u14.1) ++ (pl_W cA (fun k => ad (k + 8)) u14.2.2.1) ++ (tm_W cA (fun k => ad (k + 12)) u14.2.2.2.1) ++ (tm_W cA (fun k => ad (k + 19)) u14.2.2.2.2)) ⟨hx, hb, hml, hown, hts⟩ hK hP hD hS hA [1, 2, 3, 4, 5, 6, 7] [0, 8, 9, 10, 11, 12, 13, 14, 15, 16, 17, 18, 19, 20, 21, 22, 23, 24, 25] rfl rfl (by decide) (by decide) (by decide) (c_Heap_take l dC dI cA (fun k => ad (k + 1)) _ u14.2.1 4 (-1) (-1) (by rw [w14]; exact (ma_lo_room hi).2.1)) (cwV 3 hts (lm_gV m_8_22 m_8_23 m_9_0 m_0_2 m_9_1) rfl rfl rfl (by decide +kernel) ⟨Nat.le_of_ble_eq_true rfl, Nat.le_of_ble_eq_true rfl⟩) (va_recv (q0 := 1) hK hP rfl rfl) lm_bl_no (fun _ _ _ => trivial) hl.1 rfl rfl (Nat.le_of_ble_eq_true rfl) d_LazyMachine_stepFix_30 ⟨Nat.le_of_ble_eq_true rfl, Nat.le_of_ble_eq_true rfl⟩ (fun r30 u30 H locs w30 hP hD hS => ?_)
      obtain ⟨e_r30, w30⟩ := w30
      have hP : va_P (dC, dI) classes (lz_W cA ad (u14.1, u30, u14.2.2.1, u14.2.2.2.1, u14.2.2.2.2)) H := hP.sub [0, 19, 20, 21, 22, 23, 24, 25, 1, 2, 3, 4, 5, 6, 7, 8, 9, 10, 11, 12, 13, 14, 15, 16, 17, 18] rfl
      have hD : va_D A (lz_W cA ad (u14.1, u30, u14.2.2.1, u14.2.2.2.1, u14.2.2.2.2)) := hD.sub [0, 19, 20, 21, 22, 23, 24, 25, 1, 2, 3, 4, 5, 6, 7, 8, 9, 10, 11, 12, 13, 14, 15, 16, 17, 18] (by decide) rfl
      refine lv_istore_n (lv' := [(1, .int r30), (0, .ref (ad 0))]) hx hb d_LazyMachine_stepFix_33 rfl hl (by decide) rfl (fun ls hl => ?_)
      refine lv_aload_n hx hb d_LazyMachine_stepFix_34 rfl (lv_at hl 1 rfl) ?_
      refine lv_dup hx hb d_LazyMachine_stepFix_35 rfl ?_
      refine va_get (D := (dC, dI)) (ci := 0) (v := .int u14.1.2.2.1) (C := R_LazyMachine) (T := F_LazyMachine) (N := 13) hx hb hts (fun q hq => List.mem_cons_of_mem _ (i_LazyMachine q hq)) hown hK hP 0 rfl rfl 6 (by decide) (hts _ (List.mem_cons_of_mem _ m_2_13)) (fun _ h9 => h9) rfl d_LazyMachine_stepFix_36 ?_
      refine lv_iconst (v := 1) hx hb d_LazyMachine_stepFix_39 (by decide) ?_
      refine lv_iadd hx hb d_LazyMachine_stepFix_40 ?_
      refine va_put (D := (dC, dI)) (ci := 0) (v := .int (u14.1.2.2.1 + 1)) (ty := .int) (C := R_LazyMachine) (T := F_LazyMachine) (N := 13) hx hb hts (fun q hq => List.mem_cons_of_mem _ (i_LazyMachine q hq)) t_LazyMachine t_LazyMachine_ok n_LazyMachine hown hK hP hD hS 0 rfl rfl 6 (by decide) (hts _ (List.mem_cons_of_mem _ m_2_13)) (fun _ h9 => h9) rfl (by decide +kernel) rfl rfl (Nat.le_of_ble_eq_true rfl) d_LazyMachine_stepFix_41 (fun H locs hP hD hS => ?_)
      have hP : va_P (dC, dI) classes (lz_W cA ad ((u14.1.1, u14.1.2.1, (u14.1.2.2.1 + 1), u14.1.2.2.2.1, u14.1.2.2.2.2.1, u14.1.2.2.2.2.2.1, u14.1.2.2.2.2.2.2.1, u14.1.2.2.2.2.2.2.2.1, u14.1.2.2.2.2.2.2.2.2), u30, u14.2.2.1, u14.2.2.2.1, u14.2.2.2.2)) H := hP
      have hD : va_D A (lz_W cA ad ((u14.1.1, u14.1.2.1, (u14.1.2.2.1 + 1), u14.1.2.2.2.1, u14.1.2.2.2.2.1, u14.1.2.2.2.2.2.1, u14.1.2.2.2.2.2.2.1, u14.1.2.2.2.2.2.2.2.1, u14.1.2.2.2.2.2.2.2.2), u30, u14.2.2.1, u14.2.2.2.1, u14.2.2.2.2)) := hD
      refine lv_aload_n hx hb d_LazyMachine_stepFix_44 rfl (lv_at hl 1 rfl) ?_
      refine va_get (D := (dC, dI)) (ci := 0) (v := .ref (ad 8)) (C := R_LazyMachine) (T := F_LazyMachine) (N := 13) hx hb hts (fun q hq => List.mem_cons_of_mem _ (i_LazyMachine q hq)) hown hK hP 0 rfl rfl 1 (by decide) (hts _ (List.mem_cons_of_mem _ m_2_8)) (fun _ h9 => h9) rfl d_LazyMachine_stepFix_45 ?_
      refine lv_iconst (v := 0) hx hb d_LazyMachine_stepFix_48 (by decide) ?_
      refine lv_iload_n hx hb d_LazyMachine_stepFix_49 rfl (lv_at hl 0 rfl) ?_
      refine lv_iconst (v := -1) hx hb d_LazyMachine_stepFix_50 (by decide) ?_
      refine lm_vv (b := ad 8) (As := [.int 0, .int r30, .int (-1)]) (rest := []) (wr := (ma_W cA ad (u14.1.1, u14.1.2.1, (u14.1.2.2.1 + 1), u14.1.2.2.2.1, u14.1.2.2.2.2.1, u14.1.2.2.2.2.2.1, u14.1.2.2.2.2.2.2.1, u14.1.2.2.2.2.2.2.2.1, u14.1.2.2.2.2.2.2.2.2)) ++ (hp_W cA (fun k => ad (k + 1)) u30) ++ (tm_W cA (fun k => ad (k + 12)) u14.2.2.2.1) ++ (tm_W cA (fun k => ad (k + 19)) u14.2.2.2.2)) ⟨hx, hb, hml, hown, hts⟩ hK hP hD hS hA [8, 9, 10, 11] [0, 1, 2, 3, 4, 5, 6, 7, 12, 13, 14, 15, 16, 17, 18, 19, 20, 21, 22, 23, 24, 25] rfl rfl (by decide) (by decide) (by decide) (c_Pile_add l dC dI cA (fun k => ad (k + 8)) _ u14.2.2.1 0 r30 (-1) (by show pl_ok (m_P u14); rw [w14, ma_room_P]; exact hi.2.2.1)) (cwV 3 hts (lm_gV m_9_10 m_9_11 m_9_12 m_0_3 m_9_13) rfl rfl rfl (by decide +kernel) ⟨Nat.le_of_ble_eq_true rfl, Nat.le_of_ble_eq_true rfl⟩) (va_recv (q0 := 8) hK hP rfl rfl) lm_bl_no (fun _ _ _ => trivial) hl.1 rfl rfl (Nat.le_of_ble_eq_true rfl) d_LazyMachine_stepFix_51 ⟨Nat.le_of_ble_eq_true rfl, Nat.le_of_ble_eq_true rfl⟩ (fun u51 H locs w51 hP hD hS => ?_)
      have hP : va_P (dC, dI) classes (lz_W cA ad ((u14.1.1, u14.1.2.1, (u14.1.2.2.1 + 1), u14.1.2.2.2.1, u14.1.2.2.2.2.1, u14.1.2.2.2.2.2.1, u14.1.2.2.2.2.2.2.1, u14.1.2.2.2.2.2.2.2.1, u14.1.2.2.2.2.2.2.2.2), u30, u51, u14.2.2.2.1, u14.2.2.2.2)) H := hP.sub [0, 1, 2, 3, 4, 5, 6, 7, 22, 23, 24, 25, 8, 9, 10, 11, 12, 13, 14, 15, 16, 17, 18, 19, 20, 21] rfl
      have hD : va_D A (lz_W cA ad ((u14.1.1, u14.1.2.1, (u14.1.2.2.1 + 1), u14.1.2.2.2.1, u14.1.2.2.2.2.1, u14.1.2.2.2.2.2.1, u14.1.2.2.2.2.2.2.1, u14.1.2.2.2.2.2.2.2.1, u14.1.2.2.2.2.2.2.2.2), u30, u51, u14.2.2.2.1, u14.2.2.2.2)) := hD.sub [0, 1, 2, 3, 4, 5, 6, 7, 22, 23, 24, 25, 8, 9, 10, 11, 12, 13, 14, 15, 16, 17, 18, 19, 20, 21] (by decide) rfl
      refine lv_aload_n hx hb d_LazyMachine_stepFix_54 rfl (lv_at hl 1 rfl) ?_
      refine lv_aload_n hx hb d_LazyMachine_stepFix_55 rfl (lv_at hl 1 rfl) ?_
      refine va_get (D := (dC, dI)) (ci := 0) (v := .ref (ad 19)) (C := R_LazyMachine) (T := F_LazyMachine) (N := 13) hx hb hts (fun q hq => List.mem_cons_of_mem _ (i_LazyMachine q hq)) hown hK hP 0 rfl rfl 3 (by decide) (hts _ (List.mem_cons_of_mem _ m_2_10)) (fun _ h9 => h9) rfl d_LazyMachine_stepFix_56 ?_
      refine lv_aload_n hx hb d_LazyMachine_stepFix_59 rfl (lv_at hl 1 rfl) ?_
      refine va_get (D := (dC, dI)) (ci := 0) (v := .int u14.1.2.2.2.2.1) (C := R_LazyMachine) (T := F_LazyMachine) (N := 13) hx hb hts (fun q hq => List.mem_cons_of_mem _ (i_LazyMachine q hq)) hown hK hP 0 rfl rfl 8 (by decide) (hts _ (List.mem_cons_of_mem _ m_2_15)) (fun _ h9 => h9) rfl d_LazyMachine_stepFix_60 ?_
      refine lv_iconst (v := 0) hx hb d_LazyMachine_stepFix_63 (by decide) ?_
      refine lm_vi (b := ad 19) (As := [.int u14.1.2.2.2.2.1, .int 0]) (rest := [.ref (ad 0)]) (wr := (ma_W cA ad (u14.1.1, u14.1.2.1, (u14.1.2.2.1 + 1), u14.1.2.2.2.1, u14.1.2.2.2.2.1, u14.1.2.2.2.2.2.1, u14.1.2.2.2.2.2.2.1, u14.1.2.2.2.2.2.2.2.1, u14.1.2.2.2.2.2.2.2.2)) ++ (hp_W cA (fun k => ad (k + 1)) u30) ++ (pl_W cA (fun k => ad (k + 8)) u51) ++ (tm_W cA (fun k => ad (k + 12)) u14.2.2.2.1)) ⟨hx, hb, hml, hown, hts⟩ hK hP hD hS hA [19, 20, 21, 22, 23, 24, 25] [0, 1, 2, 3, 4, 5, 6, 7, 8, 9, 10, 11, 12, 13, 14, 15, 16, 17, 18] rfl rfl (by decide) (by decide) (by decide) (c_Term_part l dC dI cA (fun k => ad (k + 19)) _ u14.2.2.2.2 u14.1.2.2.2.2.1 0 (by show vp_in (l_no u14 * 3 + 0) 600; rw [w14, ma_room_no]; exact nd_ix hn (w := 0) (by decide))) (cwV 2 hts (lm_gV m_8_18 m_8_19 m_8_20 m_0_4 m_8_21) rfl rfl rfl (by decide +kernel) ⟨Nat.le_of_ble_eq_true rfl, Nat.le_of_ble_eq_true rfl⟩) (va_recv (q0 := 19) hK hP rfl rfl) lm_bl_no (fun _ _ _ => trivial) hl.1 rfl rfl (Nat.le_of_ble_eq_true rfl) d_LazyMachine_stepFix_64 ⟨Nat.le_of_ble_eq_true rfl, Nat.le_of_ble_eq_true rfl⟩ (fun r64 u64 H locs w64 hP hD hS => ?_)
      obtain ⟨e_r64, w64⟩ := w64
      replace w64 := w64.symm
      subst w64
      have hP : va_P (dC, dI) classes (lz_W cA ad ((u14.1.1, u14.1.2.1, (u14.1.2.2.1 + 1), u14.1.2.2.2.1, u14.1.2.2.2.2.1, u14.1.2.2.2.2.2.1, u14.1.2.2.2.2.2.2.1, u14.1.2.2.2.2.2.2.2.1, u14.1.2.2.2.2.2.2.2.2), u30, u51, u14.2.2.2.1, u14.2.2.2.2)) H := hP
      have hD : va_D A (lz_W cA ad ((u14.1.1, u14.1.2.1, (u14.1.2.2.1 + 1), u14.1.2.2.2.1, u14.1.2.2.2.2.1, u14.1.2.2.2.2.2.1, u14.1.2.2.2.2.2.2.1, u14.1.2.2.2.2.2.2.2.1, u14.1.2.2.2.2.2.2.2.2), u30, u51, u14.2.2.2.1, u14.2.2.2.2)) := hD
      refine lv_aload_n hx hb d_LazyMachine_stepFix_67 rfl (lv_at hl 1 rfl) ?_
      refine va_get (D := (dC, dI)) (ci := 0) (v := .ref (ad 1)) (C := R_LazyMachine) (T := F_LazyMachine) (N := 13) hx hb hts (fun q hq => List.mem_cons_of_mem _ (i_LazyMachine q hq)) hown hK hP 0 rfl rfl 0 (by decide) (hts _ (List.mem_cons_of_mem _ m_2_7)) (fun _ h9 => h9) rfl d_LazyMachine_stepFix_68 ?_
      refine lv_iconst (v := 5) hx hb d_LazyMachine_stepFix_71 (by decide) ?_
      refine lv_iload_n hx hb d_LazyMachine_stepFix_72 rfl (lv_at hl 0 rfl) ?_
      refine lv_aload_n hx hb d_LazyMachine_stepFix_73 rfl (lv_at hl 1 rfl) ?_
      refine va_get (D := (dC, dI)) (ci := 0) (v := .int u14.1.2.2.2.2.2.1) (C := R_LazyMachine) (T := F_LazyMachine) (N := 13) hx hb hts (fun q hq => List.mem_cons_of_mem _ (i_LazyMachine q hq)) hown hK hP 0 rfl rfl 9 (by decide) (hts _ (List.mem_cons_of_mem _ m_2_16)) (fun _ h9 => h9) rfl d_LazyMachine_stepFix_74 ?_
      refine lm_vi (b := ad 1) (As := [.int 5, .int r30, .int u14.1.2.2.2.2.2.1]) (rest := [.int r64, .ref (ad 0)]) (wr := (ma_W cA ad (u14.1.1, u14.1.2.1, (u14.1.2.2.1 + 1), u14.1.2.2.2.1, u14.1.2.2.2.2.1, u14.1.2.2.2.2.2.1, u14.1.2.2.2.2.2.2.1, u14.1.2.2.2.2.2.2.2.1, u14.1.2.2.2.2.2.2.2.2)) ++ (pl_W cA (fun k => ad (k + 8)) u51) ++ (tm_W cA (fun k => ad (k + 12)) u14.2.2.2.1) ++ (tm_W cA (fun k => ad (k + 19)) u14.2.2.2.2)) ⟨hx, hb, hml, hown, hts⟩ hK hP hD hS hA [1, 2, 3, 4, 5, 6, 7] [0, 8, 9, 10, 11, 12, 13, 14, 15, 16, 17, 18, 19, 20, 21, 22, 23, 24, 25] rfl rfl (by decide) (by decide) (by decide) (c_Heap_take l dC dI cA (fun k => ad (k + 1)) _ u30 5 r30 u14.1.2.2.2.2.2.1 (by rw [w30, w14]; exact hp_fok_take (ma_lo_room hi).2.1)) (cwV 3 hts (lm_gV m_8_22 m_8_23 m_9_0 m_0_2 m_9_1) rfl rfl rfl (by decide +kernel) ⟨Nat.le_of_ble_eq_true rfl, Nat.le_of_ble_eq_true rfl⟩) (va_recv (q0 := 1) hK hP rfl rfl) lm_bl_no (fun _ _ _ => trivial) hl.1 rfl rfl (Nat.le_of_ble_eq_true rfl) d_LazyMachine_stepFix_77 ⟨Nat.le_of_ble_eq_true rfl, Nat.le_of_ble_eq_true rfl⟩ (fun r77 u77 H locs w77 hP hD hS => ?_)
      obtain ⟨e_r77, w77⟩ := w77
      have hP : va_P (dC, dI) classes (lz_W cA ad ((u14.1.1, u14.1.2.1, (u14.1.2.2.1 + 1), u14.1.2.2.2.1, u14.1.2.2.2.2.1, u14.1.2.2.2.2.2.1, u14.1.2.2.2.2.2.2.1, u14.1.2.2.2.2.2.2.2.1, u14.1.2.2.2.2.2.2.2.2), u77, u51, u14.2.2.2.1, u14.2.2.2.2)) H := hP.sub [0, 19, 20, 21, 22, 23, 24, 25, 1, 2, 3, 4, 5, 6, 7, 8, 9, 10, 11, 12, 13, 14, 15, 16, 17, 18] rfl
      have hD : va_D A (lz_W cA ad ((u14.1.1, u14.1.2.1, (u14.1.2.2.1 + 1), u14.1.2.2.2.1, u14.1.2.2.2.2.1, u14.1.2.2.2.2.2.1, u14.1.2.2.2.2.2.2.1, u14.1.2.2.2.2.2.2.2.1, u14.1.2.2.2.2.2.2.2.2), u77, u51, u14.2.2.2.1, u14.2.2.2.2)) := hD.sub [0, 19, 20, 21, 22, 23, 24, 25, 1, 2, 3, 4, 5, 6, 7, 8, 9, 10, 11, 12, 13, 14, 15, 16, 17, 18] (by decide) rfl
      refine lm_vv (b := ad 0) (As := [.int r64, .int r77]) (rest := []) (wr := ([] : va_W)) ⟨hx, hb, hml, hown, hts⟩ hK hP hD hS hA [0, 1, 2, 3, 4, 5, 6, 7, 8, 9, 10, 11, 12, 13, 14, 15, 16, 17, 18, 19, 20, 21, 22, 23, 24, 25] [] rfl rfl (by decide) (by decide) (by decide) (c_LazyMachine_enter l dC dI cA ad _ ((u14.1.1, u14.1.2.1, (u14.1.2.2.1 + 1), u14.1.2.2.2.1, u14.1.2.2.2.2.1, u14.1.2.2.2.2.2.1, u14.1.2.2.2.2.2.2.1, u14.1.2.2.2.2.2.2.2.1, u14.1.2.2.2.2.2.2.2.2), u77, u51, u14.2.2.2.1, u14.2.2.2.2) r64 r77 ) (cwV 2 hts (lm_gV m_4_9 m_4_10 m_19_6 m_0_1 m_4_11) rfl rfl rfl (by decide +kernel) ⟨Nat.le_of_ble_eq_true rfl, Nat.le_of_ble_eq_true rfl⟩) (va_recv (q0 := 0) hK hP rfl rfl) lm_bl_no (fun _ _ _ => trivial) hl.1 rfl rfl (Nat.le_of_ble_eq_true rfl) d_LazyMachine_stepFix_80 ⟨Nat.le_of_ble_eq_true rfl, Nat.le_of_ble_eq_true rfl⟩ (fun u80 H locs w80 hP hD hS => ?_)
      have w80 : u80 = ((u14.1.1, u14.1.2.1, (u14.1.2.2.1 + 1), 0, r64, r77, u14.1.2.2.2.2.2.2.1, u14.1.2.2.2.2.2.2.2.1, u14.1.2.2.2.2.2.2.2.2), u77, u51, u14.2.2.2.1, u14.2.2.2.2) := w80
      subst w80
      have hP : va_P (dC, dI) classes (lz_W cA ad ((u14.1.1, u14.1.2.1, (u14.1.2.2.1 + 1), 0, r64, r77, u14.1.2.2.2.2.2.2.1, u14.1.2.2.2.2.2.2.2.1, u14.1.2.2.2.2.2.2.2.2), u77, u51, u14.2.2.2.1, u14.2.2.2.2)) H := hP
      have hD : va_D A (lz_W cA ad ((u14.1.1, u14.1.2.1, (u14.1.2.2.1 + 1), 0, r64, r77, u14.1.2.2.2.2.2.2.1, u14.1.2.2.2.2.2.2.2.1, u14.1.2.2.2.2.2.2.2.2), u77, u51, u14.2.2.2.1, u14.2.2.2.2)) := hD
      refine lv_iconst (v := 1) hx hb d_LazyMachine_stepFix_83 (by decide) ?_
      refine lm_ri (v := 1) hx hb hr hlocks ((u14.1.1, u14.1.2.1, (u14.1.2.2.1 + 1), 0, r64, r77, u14.1.2.2.2.2.2.2.1, u14.1.2.2.2.2.2.2.2.1, u14.1.2.2.2.2.2.2.2.2), u77, u51, u14.2.2.2.1, u14.2.2.2.2) ?_ hP hK hD hS d_LazyMachine_stepFix_84
      subst e_r4 e_r14 w14 e_r30 w30 w51 e_r64 e_r77 w77; unfold ma_fix ma_fix2; (first | rw [if_pos h7] | rw [if_neg h7]); (first | rw [if_pos h17] | rw [if_neg h17]); exact ⟨rfl, rfl⟩
    · refine lv_bipush (v := 6) hx hb d_LazyMachine_stepFix_20 (by decide) ?_
      refine lm_ri (v := 6) hx hb hr hlocks u14 ?_ hP hK hD hS d_LazyMachine_stepFix_22
      subst e_r4 e_r14 w14; unfold ma_fix ma_fix2; (first | rw [if_pos h7] | rw [if_neg h7]); (first | rw [if_pos h17] | rw [if_neg h17]); exact ⟨rfl, rfl⟩
  · refine lv_iconst (v := 5) hx hb d_LazyMachine_stepFix_10 (by decide) ?_
    refine lm_ri (v := 5) hx hb hr hlocks ((ss, sp, fo, ba, no, en, vs, vf, vg), SM, PM, XM, YM) ?_ hP hK hD hS d_LazyMachine_stepFix_11
    subst e_r4; unfold ma_fix ma_fix2; (first | rw [if_pos h7] | rw [if_neg h7]); exact ⟨rfl, rfl⟩
set_option maxHeartbeats 4000000 in
set_option maxRecDepth 100000 in
theorem c_LazyMachine_stepLet (l : Launch) (dC : Nat → ClassId) (dI : Nat → Nat → Nat) (cA : ClassId)  (ad : Nat → Nat) (sz : Nat) (M : ZMS)  (hi : ma_lo M) (ht : tm_lo (m_Y M)) (hn : vp_in (l_no M) 200) (he : hp_c (l_en M)) : Met l y_LazyMachine_stepLet w_LazyMachine_stepLet ({ frames := 4, cells := 0, slots := 0, locals := 87 } : Room) (va_Pc [.ref (ad 0)] (lm_pre (dC, dI) classes [(cA, .int)] (lz_W cA ad M) sz lm_no)) (va_Qi (fun (r : Int32) (u : ZMS) => r = (ma_let M).1 ∧ u = (ma_let M).2) (fun u => lm_at (dC, dI) classes [(cA, .int)] (va_A (lz_W cA ad M) sz) (lz_W cA ad u)) (va_A (lz_W cA ad M) sz)) 0 0 (va_A (lz_W cA ad M) sz) := by
  obtain ⟨⟨ss, sp, fo, ba, no, en, vs, vf, vg⟩, SM, PM, XM, YM⟩ := M
  refine lm_met (fun A => va_Qi (fun (r : Int32) (u : ZMS) => r = (ma_let ((ss, sp, fo, ba, no, en, vs, vf, vg), SM, PM, XM, YM)).1 ∧ u = (ma_let ((ss, sp, fo, ba, no, en, vs, vf, vg), SM, PM, XM, YM)).2) (fun u => lm_at (dC, dI) classes [(cA, .int)] A (lz_W cA ad u)) A) (by decide) rfl (Nat.le_of_ble_eq_true rfl) ?_
  intro p e s m below meth c A hx hb hr hts hown hlocks hname hml hK hP hD hA hE hsz hAe hS ls hl
  replace hl : lv_has ls 3 [(0, .ref (ad 0))] := hl
  clear hAe hsz
  refine lv_aload_n hx hb d_LazyMachine_stepLet_0 rfl (lv_at hl 0 rfl) ?_
  refine va_get (D := (dC, dI)) (ci := 0) (v := .ref (ad 19)) (C := R_LazyMachine) (T := F_LazyMachine) (N := 13) hx hb hts (fun q hq => List.mem_cons_of_mem _ (i_LazyMachine q hq)) hown hK hP 0 rfl rfl 3 (by decide) (hts _ (List.mem_cons_of_mem _ m_2_10)) (fun _ h9 => h9) rfl d_LazyMachine_stepLet_1 ?_
  refine lv_aload_n hx hb d_LazyMachine_stepLet_4 rfl (lv_at hl 0 rfl) ?_
  refine va_get (D := (dC, dI)) (ci := 0) (v := .int no) (C := R_LazyMachine) (T := F_LazyMachine) (N := 13) hx hb hts (fun q hq => List.mem_cons_of_mem _ (i_LazyMachine q hq)) hown hK hP 0 rfl rfl 8 (by decide) (hts _ (List.mem_cons_of_mem _ m_2_15)) (fun _ h9 => h9) rfl d_LazyMachine_stepLet_5 ?_
  refine lv_iconst (v := 0) hx hb d_LazyMachine_stepLet_8 (by decide) ?_
  refine lm_vi (b := ad 19) (As := [.int no, .int 0]) (rest := []) (wr := (ma_W cA ad (ss, sp, fo, ba, no, en, vs, vf, vg)) ++ (hp_W cA (fun k => ad (k + 1)) SM) ++ (pl_W cA (fun k => ad (k + 8)) PM) ++ (tm_W cA (fun k => ad (k + 12)) XM)) ⟨hx, hb, hml, hown, hts⟩ hK hP hD hS hA [19, 20, 21, 22, 23, 24, 25] [0, 1, 2, 3, 4, 5, 6, 7, 8, 9, 10, 11, 12, 13, 14, 15, 16, 17, 18] rfl rfl (by decide) (by decide) (by decide) (c_Term_part l dC dI cA (fun k => ad (k + 19)) _ YM no 0 (by exact nd_ix hn (w := 0) (by decide))) (cwV 2 hts (lm_gV m_8_18 m_8_19 m_8_20 m_0_4 m_8_21) rfl rfl rfl (by decide +kernel) ⟨Nat.le_of_ble_eq_true rfl, Nat.le_of_ble_eq_true rfl⟩) (va_recv (q0 := 19) hK hP rfl rfl) lm_bl_no (fun _ _ _ => trivial) hl.1 rfl rfl (Nat.le_of_ble_eq_true rfl) d_LazyMachine_stepLet_9 ⟨Nat.le_of_ble_eq_true rfl, Nat.le_of_ble_eq_true rfl⟩ (fun r9 u9 H locs w9 hP hD hS => ?_)
  obtain ⟨e_r9, w9⟩ := w9
  replace w9 := w9.symm
  subst w9
  have hP : va_P (dC, dI) classes (lz_W cA ad ((ss, sp, fo, ba, no, en, vs, vf, vg), SM, PM, XM, YM)) H := hP
  have hD : va_D A (lz_W cA ad ((ss, sp, fo, ba, no, en, vs, vf, vg), SM, PM, XM, YM)) := hD
  refine lv_istore_n (lv' := [(1, .int r9), (0, .ref (ad 0))]) hx hb d_LazyMachine_stepLet_12 rfl hl (by decide) rfl (fun ls hl => ?_)
  refine lv_aload_n hx hb d_LazyMachine_stepLet_13 rfl (lv_at hl 1 rfl) ?_
  refine lv_aload_n hx hb d_LazyMachine_stepLet_14 rfl (lv_at hl 1 rfl) ?_
  refine lv_iload_n hx hb d_LazyMachine_stepLet_15 rfl (lv_at hl 0 rfl) ?_
  refine lm_vi (b := ad 0) (As := [.int r9]) (rest := [.ref (ad 0)]) (wr := ([] : va_W)) ⟨hx, hb, hml, hown, hts⟩ hK hP hD hS hA [0, 1, 2, 3, 4, 5, 6, 7, 8, 9, 10, 11, 12, 13, 14, 15, 16, 17, 18, 19, 20, 21, 22, 23, 24, 25] [] rfl rfl (by decide) (by decide) (by decide) (c_LazyMachine_cellsFor l dC dI cA ad _ ((ss, sp, fo, ba, no, en, vs, vf, vg), SM, PM, XM, YM) r9 (by rw [e_r9]; exact nd_part ht hn (w := 0) (by decide))) (cwV 1 hts (lm_gV m_11_23 m_12_0 m_19_20 m_0_1 m_12_1) rfl rfl rfl (by decide +kernel) ⟨Nat.le_of_ble_eq_true rfl, Nat.le_of_ble_eq_true rfl⟩) (va_recv (q0 := 0) hK hP rfl rfl) lm_bl_no (fun _ _ _ => trivial) hl.1 rfl rfl (Nat.le_of_ble_eq_true rfl) d_LazyMachine_stepLet_16 ⟨Nat.le_of_ble_eq_true rfl, Nat.le_of_ble_eq_true rfl⟩ (fun r16 u16 H locs w16 hP hD hS => ?_)
  obtain ⟨e_r16, w16⟩ := w16
  replace w16 := w16.symm
  subst w16
  have hP : va_P (dC, dI) classes (lz_W cA ad ((ss, sp, fo, ba, no, en, vs, vf, vg), SM, PM, XM, YM)) H := hP
  have hD : va_D A (lz_W cA ad ((ss, sp, fo, ba, no, en, vs, vf, vg), SM, PM, XM, YM)) := hD
  refine lv_iconst (v := 1) hx hb d_LazyMachine_stepLet_19 (by decide) ?_
  refine lv_iadd hx hb d_LazyMachine_stepLet_20 ?_
  refine lm_vi (b := ad 0) (As := [.int (r16 + 1)]) (rest := []) (wr := ([] : va_W)) ⟨hx, hb, hml, hown, hts⟩ hK hP hD hS hA [0, 1, 2, 3, 4, 5, 6, 7, 8, 9, 10, 11, 12, 13, 14, 15, 16, 17, 18, 19, 20, 21, 22, 23, 24, 25] [] rfl rfl (by decide) (by decide) (by decide) (c_LazyMachine_hasRoomFor l dC dI cA ad _ ((ss, sp, fo, ba, no, en, vs, vf, vg), SM, PM, XM, YM) (r16 + 1) (by exact hi)) (cwV 1 hts (lm_gV m_8_7 m_8_8 m_19_10 m_0_1 m_8_9) rfl rfl rfl (by decide +kernel) ⟨Nat.le_of_ble_eq_true rfl, Nat.le_of_ble_eq_true rfl⟩) (va_recv (q0 := 0) hK hP rfl rfl) lm_bl_no (fun _ _ _ => trivial) hl.1 rfl rfl (Nat.le_of_ble_eq_true rfl) d_LazyMachine_stepLet_21 ⟨Nat.le_of_ble_eq_true rfl, Nat.le_of_ble_eq_true rfl⟩ (fun r21 u21 H locs w21 hP hD hS => ?_)
  obtain ⟨e_r21, w21⟩ := w21
  have hP : va_P (dC, dI) classes (lz_W cA ad u21) H := hP
  have hD : va_D A (lz_W cA ad u21) := hD
  refine lv_if_ne hx hb d_LazyMachine_stepLet_24 rfl (fun h24 => ?_) (fun h24 => ?_)
  · refine lv_aload_n hx hb d_LazyMachine_stepLet_30 rfl (lv_at hl 1 rfl) ?_
    refine lv_iload_n hx hb d_LazyMachine_stepLet_31 rfl (lv_at hl 0 rfl) ?_
    refine lm_vi (b := ad 0) (As := [.int r9]) (rest := []) (wr := ([] : va_W)) ⟨hx, hb, hml, hown, hts⟩ hK hP hD hS hA [0, 1, 2, 3, 4, 5, 6, 7, 8, 9, 10, 11, 12, 13, 14, 15, 16, 17, 18, 19, 20, 21, 22, 23, 24, 25] [] rfl rfl (by decide) (by decide) (by decide) (c_LazyMachine_thunkFor l dC dI cA ad _ u21 r9 (by rw [e_r9]; exact nd_part ht hn (w := 0) (by decide)) (by rw [w21]; exact (th_room hi ht he).1) (by rw [w21]; exact (th_room hi ht he).2.1) (by rw [w21]; exact (th_room hi ht he).2.2.1) (by rw [w21]; exact (th_room hi ht he).2.2.2)) (cwV 1 hts (lm_gV m_12_2 m_12_3 m_19_21 m_0_1 m_12_4) rfl rfl rfl (by decide +kernel) ⟨Nat.le_of_ble_eq_true rfl, Nat.le_of_ble_eq_true rfl⟩) (va_recv (q0 := 0) hK hP rfl rfl) lm_bl_no (fun _ _ _ => trivial) hl.1 rfl rfl (Nat.le_of_ble_eq_true rfl) d_LazyMachine_stepLet_32 ⟨Nat.le_of_ble_eq_true rfl, Nat.le_of_ble_eq_true rfl⟩ (fun r32 u32 H locs w32 hP hD hS => ?_)
    obtain ⟨e_r32, w32⟩ := w32
    have hP : va_P (dC, dI) classes (lz_W cA ad u32) H := hP
    have hD : va_D A (lz_W cA ad u32) := hD
    refine lv_istore_n (lv' := [(2, .int r32), (1, .int r9), (0, .ref (ad 0))]) hx hb d_LazyMachine_stepLet_35 rfl hl (by decide) rfl (fun ls hl => ?_)
    refine lv_aload_n hx hb d_LazyMachine_stepLet_36 rfl (lv_at hl 2 rfl) ?_
    refine lv_aload_n hx hb d_LazyMachine_stepLet_37 rfl (lv_at hl 2 rfl) ?_
    refine va_get (D := (dC, dI)) (ci := 0) (v := .ref (ad 19)) (C := R_LazyMachine) (T := F_LazyMachine) (N := 13) hx hb hts (fun q hq => List.mem_cons_of_mem _ (i_LazyMachine q hq)) hown hK hP 0 rfl rfl 3 (by decide) (hts _ (List.mem_cons_of_mem _ m_2_10)) (fun _ h9 => h9) rfl d_LazyMachine_stepLet_38 ?_
    refine lv_aload_n hx hb d_LazyMachine_stepLet_41 rfl (lv_at hl 2 rfl) ?_
    refine va_get (D := (dC, dI)) (ci := 0) (v := .int u32.1.2.2.2.2.1) (C := R_LazyMachine) (T := F_LazyMachine) (N := 13) hx hb hts (fun q hq => List.mem_cons_of_mem _ (i_LazyMachine q hq)) hown hK hP 0 rfl rfl 8 (by decide) (hts _ (List.mem_cons_of_mem _ m_2_15)) (fun _ h9 => h9) rfl d_LazyMachine_stepLet_42 ?_
    refine lv_iconst (v := 1) hx hb d_LazyMachine_stepLet_45 (by decide) ?_
    refine lm_vi (b := ad 19) (As := [.int u32.1.2.2.2.2.1, .int 1]) (rest := [.ref (ad 0)]) (wr := (ma_W cA ad u32.1) ++ (hp_W cA (fun k => ad (k + 1)) u32.2.1) ++ (pl_W cA (fun k => ad (k + 8)) u32.2.2.1) ++ (tm_W cA (fun k => ad (k + 12)) u32.2.2.2.1)) ⟨hx, hb, hml, hown, hts⟩ hK hP hD hS hA [19, 20, 21, 22, 23, 24, 25] [0, 1, 2, 3, 4, 5, 6, 7, 8, 9, 10, 11, 12, 13, 14, 15, 16, 17, 18] rfl rfl (by decide) (by decide) (by decide) (c_Term_part l dC dI cA (fun k => ad (k + 19)) _ u32.2.2.2.2 u32.1.2.2.2.2.1 1 (by show vp_in (l_no u32 * 3 + 1) 600; rw [w32, ma_thunk_no, w21, ma_room_no]; exact nd_ix hn (w := 1) (by decide))) (cwV 2 hts (lm_gV m_8_18 m_8_19 m_8_20 m_0_4 m_8_21) rfl rfl rfl (by decide +kernel) ⟨Nat.le_of_ble_eq_true rfl, Nat.le_of_ble_eq_true rfl⟩) (va_recv (q0 := 19) hK hP rfl rfl) lm_bl_no (fun _ _ _ => trivial) hl.1 rfl rfl (Nat.le_of_ble_eq_true rfl) d_LazyMachine_stepLet_46 ⟨Nat.le_of_ble_eq_true rfl, Nat.le_of_ble_eq_true rfl⟩ (fun r46 u46 H locs w46 hP hD hS => ?_)
    obtain ⟨e_r46, w46⟩ := w46
    replace w46 := w46.symm
    subst w46
    have hP : va_P (dC, dI) classes (lz_W cA ad u32) H := hP
    have hD : va_D A (lz_W cA ad u32) := hD
    refine lv_aload_n hx hb d_LazyMachine_stepLet_49 rfl (lv_at hl 2 rfl) ?_
    refine va_get (D := (dC, dI)) (ci := 0) (v := .ref (ad 1)) (C := R_LazyMachine) (T := F_LazyMachine) (N := 13) hx hb hts (fun q hq => List.mem_cons_of_mem _ (i_LazyMachine q hq)) hown hK hP 0 rfl rfl 0 (by decide) (hts _ (List.mem_cons_of_mem _ m_2_7)) (fun _ h9 => h9) rfl d_LazyMachine_stepLet_50 ?_
    refine lv_iconst (v := 5) hx hb d_LazyMachine_stepLet_53 (by decide) ?_
    refine lv_iload_n hx hb d_LazyMachine_stepLet_54 rfl (lv_at hl 0 rfl) ?_
    refine lv_aload_n hx hb d_LazyMachine_stepLet_55 rfl (lv_at hl 2 rfl) ?_
    refine va_get (D := (dC, dI)) (ci := 0) (v := .int u32.1.2.2.2.2.2.1) (C := R_LazyMachine) (T := F_LazyMachine) (N := 13) hx hb hts (fun q hq => List.mem_cons_of_mem _ (i_LazyMachine q hq)) hown hK hP 0 rfl rfl 9 (by decide) (hts _ (List.mem_cons_of_mem _ m_2_16)) (fun _ h9 => h9) rfl d_LazyMachine_stepLet_56 ?_
    refine lm_vi (b := ad 1) (As := [.int 5, .int r32, .int u32.1.2.2.2.2.2.1]) (rest := [.int r46, .ref (ad 0)]) (wr := (ma_W cA ad u32.1) ++ (pl_W cA (fun k => ad (k + 8)) u32.2.2.1) ++ (tm_W cA (fun k => ad (k + 12)) u32.2.2.2.1) ++ (tm_W cA (fun k => ad (k + 19)) u32.2.2.2.2)) ⟨hx, hb, hml, hown, hts⟩ hK hP hD hS hA [1, 2, 3, 4, 5, 6, 7] [0, 8, 9, 10, 11, 12, 13, 14, 15, 16, 17, 18, 19, 20, 21, 22, 23, 24, 25] rfl rfl (by decide) (by decide) (by decide) (c_Heap_take l dC dI cA (fun k => ad (k + 1)) _ u32.2.1 5 r32 u32.1.2.2.2.2.2.1 (by show hp_fok (m_H u32); rw [w32]; exact hp_fok_thunk (by rw [w21]; exact (ma_lo_room hi).2.1))) (cwV 3 hts (lm_gV m_8_22 m_8_23 m_9_0 m_0_2 m_9_1) rfl rfl rfl (by decide +kernel) ⟨Nat.le_of_ble_eq_true rfl, Nat.le_of_ble_eq_true rfl⟩) (va_recv (q0 := 1) hK hP rfl rfl) lm_bl_no (fun _ _ _ => trivial) hl.1 rfl rfl (Nat.le_of_ble_eq_true rfl) d_LazyMachine_stepLet_59 ⟨Nat.le_of_ble_eq_true rfl, Nat.le_of_ble_eq_true rfl⟩ (fun r59 u59 H locs w59 hP hD hS => ?_)
    obtain ⟨e_r59, w59⟩ := w59
    have hP : va_P (dC, dI) classes (lz_W cA ad (u32.1, u59, u32.2.2.1, u32.2.2.2.1, u32.2.2.2.2)) H := hP.sub [0, 19, 20, 21, 22, 23, 24, 25, 1, 2, 3, 4, 5, 6, 7, 8, 9, 10, 11, 12, 13, 14, 15, 16, 17, 18] rfl
    have hD : va_D A (lz_W cA ad (u32.1, u59, u32.2.2.1, u32.2.2.2.1, u32.2.2.2.2)) := hD.sub [0, 19, 20, 21, 22, 23, 24, 25, 1, 2, 3, 4, 5, 6, 7, 8, 9, 10, 11, 12, 13, 14, 15, 16, 17, 18] (by decide) rfl
    refine lm_vv (b := ad 0) (As := [.int r46, .int r59]) (rest := []) (wr := ([] : va_W)) ⟨hx, hb, hml, hown, hts⟩ hK hP hD hS hA [0, 1, 2, 3, 4, 5, 6, 7, 8, 9, 10, 11, 12, 13, 14, 15, 16, 17, 18, 19, 20, 21, 22, 23, 24, 25] [] rfl rfl (by decide) (by decide) (by decide) (c_LazyMachine_enter l dC dI cA ad _ (u32.1, u59, u32.2.2.1, u32.2.2.2.1, u32.2.2.2.2) r46 r59 ) (cwV 2 hts (lm_gV m_4_9 m_4_10 m_19_6 m_0_1 m_4_11) rfl rfl rfl (by decide +kernel) ⟨Nat.le_of_ble_eq_true rfl, Nat.le_of_ble_eq_true rfl⟩) (va_recv (q0 := 0) hK hP rfl rfl) lm_bl_no (fun _ _ _ => trivial) hl.1 rfl rfl (Nat.le_of_ble_eq_true rfl) d_LazyMachine_stepLet_62 ⟨Nat.le_of_ble_eq_true rfl, Nat.le_of_ble_eq_true rfl⟩ (fun u62 H locs w62 hP hD hS => ?_)
    have w62 : u62 = ((u32.1.1, u32.1.2.1, u32.1.2.2.1, 0, r46, r59, u32.1.2.2.2.2.2.2.1, u32.1.2.2.2.2.2.2.2.1, u32.1.2.2.2.2.2.2.2.2), u59, u32.2.2.1, u32.2.2.2.1, u32.2.2.2.2) := w62
    subst w62
    have hP : va_P (dC, dI) classes (lz_W cA ad ((u32.1.1, u32.1.2.1, u32.1.2.2.1, 0, r46, r59, u32.1.2.2.2.2.2.2.1, u32.1.2.2.2.2.2.2.2.1, u32.1.2.2.2.2.2.2.2.2), u59, u32.2.2.1, u32.2.2.2.1, u32.2.2.2.2)) H := hP
    have hD : va_D A (lz_W cA ad ((u32.1.1, u32.1.2.1, u32.1.2.2.1, 0, r46, r59, u32.1.2.2.2.2.2.2.1, u32.1.2.2.2.2.2.2.2.1, u32.1.2.2.2.2.2.2.2.2), u59, u32.2.2.1, u32.2.2.2.1, u32.2.2.2.2)) := hD
    refine lv_iconst (v := 1) hx hb d_LazyMachine_stepLet_65 (by decide) ?_
    refine lm_ri (v := 1) hx hb hr hlocks ((u32.1.1, u32.1.2.1, u32.1.2.2.1, 0, r46, r59, u32.1.2.2.2.2.2.2.1, u32.1.2.2.2.2.2.2.2.1, u32.1.2.2.2.2.2.2.2.2), u59, u32.2.2.1, u32.2.2.2.1, u32.2.2.2.2) ?_ hP hK hD hS d_LazyMachine_stepLet_66
    subst e_r9 e_r16 e_r21 w21 e_r32 w32 e_r46 e_r59 w59; unfold ma_let ma_let2; (first | rw [if_pos h24] | rw [if_neg h24]); exact ⟨rfl, rfl⟩
  · refine lv_bipush (v := 6) hx hb d_LazyMachine_stepLet_27 (by decide) ?_
    refine lm_ri (v := 6) hx hb hr hlocks u21 ?_ hP hK hD hS d_LazyMachine_stepLet_29
    subst e_r9 e_r16 e_r21 w21; unfold ma_let ma_let2; (first | rw [if_pos h24] | rw [if_neg h24]); exact ⟨rfl, rfl⟩
set_option maxHeartbeats 4000000 in
set_option maxRecDepth 100000 in
theorem c_LazyMachine_stepPair (l : Launch) (dC : Nat → ClassId) (dI : Nat → Nat → Nat) (cA : ClassId)  (ad : Nat → Nat) (sz : Nat) (M : ZMS)  (hi : ma_lo M) (ht : tm_lo (m_Y M)) (hn : vp_in (l_no M) 200) (he : hp_c (l_en M)) : Met l y_LazyMachine_stepPair w_LazyMachine_stepPair ({ frames := 4, cells := 0, slots := 0, locals := 87 } : Room) (va_Pc [.ref (ad 0)] (lm_pre (dC, dI) classes [(cA, .int)] (lz_W cA ad M) sz lm_no)) (va_Qi (fun (r : Int32) (u : ZMS) => r = (ma_pair M).1 ∧ u = (ma_pair M).2) (fun u => lm_at (dC, dI) classes [(cA, .int)] (va_A (lz_W cA ad M) sz) (lz_W cA ad u)) (va_A (lz_W cA ad M) sz)) 0 0 (va_A (lz_W cA ad M) sz) := by
  obtain ⟨⟨ss, sp, fo, ba, no, en, vs, vf, vg⟩, SM, PM, XM, YM⟩ := M
  refine lm_met (fun A => va_Qi (fun (r : Int32) (u : ZMS) => r = (ma_pair ((ss, sp, fo, ba, no, en, vs, vf, vg), SM, PM, XM, YM)).1 ∧ u = (ma_pair ((ss, sp, fo, ba, no, en, vs, vf, vg), SM, PM, XM, YM)).2) (fun u => lm_at (dC, dI) classes [(cA, .int)] A (lz_W cA ad u)) A) (by decide) rfl (Nat.le_of_ble_eq_true rfl) ?_
  intro p e s m below meth c A hx hb hr hts hown hlocks hname hml hK hP hD hA hE hsz hAe hS ls hl
  replace hl : lv_has ls 4 [(0, .ref (ad 0))] := hl
  clear hAe hsz
  refine lv_aload_n hx hb d_LazyMachine_stepPair_0 rfl (lv_at hl 0 rfl) ?_
  refine va_get (D := (dC, dI)) (ci := 0) (v := .ref (ad 19)) (C := R_LazyMachine) (T := F_LazyMachine) (N := 13) hx hb hts (fun q hq => List.mem_cons_of_mem _ (i_LazyMachine q hq)) hown hK hP 0 rfl rfl 3 (by decide) (hts _ (List.mem_cons_of_mem _ m_2_10)) (fun _ h9 => h9) rfl d_LazyMachine_stepPair_1 ?_
  refine lv_aload_n hx hb d_LazyMachine_stepPair_4 rfl (lv_at hl 0 rfl) ?_
  refine va_get (D := (dC, dI)) (ci := 0) (v := .int no) (C := R_LazyMachine) (T := F_LazyMachine) (N := 13) hx hb hts (fun q hq => List.mem_cons_of_mem _ (i_LazyMachine q hq)) hown hK hP 0 rfl rfl 8 (by decide) (hts _ (List.mem_cons_of_mem _ m_2_15)) (fun _ h9 => h9) rfl d_LazyMachine_stepPair_5 ?_
  refine lv_iconst (v := 0) hx hb d_LazyMachine_stepPair_8 (by decide) ?_
  refine lm_vi (b := ad 19) (As := [.int no, .int 0]) (rest := []) (wr := (ma_W cA ad (ss, sp, fo, ba, no, en, vs, vf, vg)) ++ (hp_W cA (fun k => ad (k + 1)) SM) ++ (pl_W cA (fun k => ad (k + 8)) PM) ++ (tm_W cA (fun k => ad (k + 12)) XM)) ⟨hx, hb, hml, hown, hts⟩ hK hP hD hS hA [19, 20, 21, 22, 23, 24, 25] [0, 1, 2, 3, 4, 5, 6, 7, 8, 9, 10, 11, 12, 13, 14, 15, 16, 17, 18] rfl rfl (by decide) (by decide) (by decide) (c_Term_part l dC dI cA (fun k => ad (k + 19)) _ YM no 0 (by exact nd_ix hn (w := 0) (by decide))) (cwV 2 hts (lm_gV m_8_18 m_8_19 m_8_20 m_0_4 m_8_21) rfl rfl rfl (by decide +kernel) ⟨Nat.le_of_ble_eq_true rfl, Nat.le_of_ble_eq_true rfl⟩) (va_recv (q0 := 19) hK hP rfl rfl) lm_bl_no (fun _ _ _ => trivial) hl.1 rfl rfl (Nat.le_of_ble_eq_true rfl) d_LazyMachine_stepPair_9 ⟨Nat.le_of_ble_eq_true rfl, Nat.le_of_ble_eq_true rfl⟩ (fun r9 u9 H locs w9 hP hD hS => ?_)
  obtain ⟨e_r9, w9⟩ := w9
  replace w9 := w9.symm
  subst w9
  have hP : va_P (dC, dI) classes (lz_W cA ad ((ss, sp, fo, ba, no, en, vs, vf, vg), SM, PM, XM, YM)) H := hP
  have hD : va_D A (lz_W cA ad ((ss, sp, fo, ba, no, en, vs, vf, vg), SM, PM, XM, YM)) := hD
  refine lv_istore_n (lv' := [(1, .int r9), (0, .ref (ad 0))]) hx hb d_LazyMachine_stepPair_12 rfl hl (by decide) rfl (fun ls hl => ?_)
  refine lv_aload_n hx hb d_LazyMachine_stepPair_13 rfl (lv_at hl 1 rfl) ?_
  refine va_get (D := (dC, dI)) (ci := 0) (v := .ref (ad 19)) (C := R_LazyMachine) (T := F_LazyMachine) (N := 13) hx hb hts (fun q hq => List.mem_cons_of_mem _ (i_LazyMachine q hq)) hown hK hP 0 rfl rfl 3 (by decide) (hts _ (List.mem_cons_of_mem _ m_2_10)) (fun _ h9 => h9) rfl d_LazyMachine_stepPair_14 ?_
  refine lv_aload_n hx hb d_LazyMachine_stepPair_17 rfl (lv_at hl 1 rfl) ?_
  refine va_get (D := (dC, dI)) (ci := 0) (v := .int no) (C := R_LazyMachine) (T := F_LazyMachine) (N := 13) hx hb hts (fun q hq => List.mem_cons_of_mem _ (i_LazyMachine q hq)) hown hK hP 0 rfl rfl 8 (by decide) (hts _ (List.mem_cons_of_mem _ m_2_15)) (fun _ h9 => h9) rfl d_LazyMachine_stepPair_18 ?_
  refine lv_iconst (v := 1) hx hb d_LazyMachine_stepPair_21 (by decide) ?_
  refine lm_vi (b := ad 19) (As := [.int no, .int 1]) (rest := []) (wr := (ma_W cA ad (ss, sp, fo, ba, no, en, vs, vf, vg)) ++ (hp_W cA (fun k => ad (k + 1)) SM) ++ (pl_W cA (fun k => ad (k + 8)) PM) ++ (tm_W cA (fun k => ad (k + 12)) XM)) ⟨hx, hb, hml, hown, hts⟩ hK hP hD hS hA [19, 20, 21, 22, 23, 24, 25] [0, 1, 2, 3, 4, 5, 6, 7, 8, 9, 10, 11, 12, 13, 14, 15, 16, 17, 18] rfl rfl (by decide) (by decide) (by decide) (c_Term_part l dC dI cA (fun k => ad (k + 19)) _ YM no 1 (by exact nd_ix hn (w := 1) (by decide))) (cwV 2 hts (lm_gV m_8_18 m_8_19 m_8_20 m_0_4 m_8_21) rfl rfl rfl (by decide +kernel) ⟨Nat.le_of_ble_eq_true rfl, Nat.le_of_ble_eq_true rfl⟩) (va_recv (q0 := 19) hK hP rfl rfl) lm_bl_no (fun _ _ _ => trivial) hl.1 rfl rfl (Nat.le_of_ble_eq_true rfl) d_LazyMachine_stepPair_22 ⟨Nat.le_of_ble_eq_true rfl, Nat.le_of_ble_eq_true rfl⟩ (fun r22 u22 H locs w22 hP hD hS => ?_)
  obtain ⟨e_r22, w22⟩ := w22
  replace w22 := w22.symm
  subst w22
  have hP : va_P (dC, dI) classes (lz_W cA ad ((ss, sp, fo, ba, no, en, vs, vf, vg), SM, PM, XM, YM)) H := hP
  have hD : va_D A (lz_W cA ad ((ss, sp, fo, ba, no, en, vs, vf, vg), SM, PM, XM, YM)) := hD
  refine lv_istore_n (lv' := [(2, .int r22), (1, .int r9), (0, .ref (ad 0))]) hx hb d_LazyMachine_stepPair_25 rfl hl (by decide) rfl (fun ls hl => ?_)
  refine lv_aload_n hx hb d_LazyMachine_stepPair_26 rfl (lv_at hl 2 rfl) ?_
  refine lv_aload_n hx hb d_LazyMachine_stepPair_27 rfl (lv_at hl 2 rfl) ?_
  refine lv_iload_n hx hb d_LazyMachine_stepPair_28 rfl (lv_at hl 1 rfl) ?_
  refine lm_vi (b := ad 0) (As := [.int r9]) (rest := [.ref (ad 0)]) (wr := ([] : va_W)) ⟨hx, hb, hml, hown, hts⟩ hK hP hD hS hA [0, 1, 2, 3, 4, 5, 6, 7, 8, 9, 10, 11, 12, 13, 14, 15, 16, 17, 18, 19, 20, 21, 22, 23, 24, 25] [] rfl rfl (by decide) (by decide) (by decide) (c_LazyMachine_cellsFor l dC dI cA ad _ ((ss, sp, fo, ba, no, en, vs, vf, vg), SM, PM, XM, YM) r9 (by rw [e_r9]; exact nd_part ht hn (w := 0) (by decide))) (cwV 1 hts (lm_gV m_11_23 m_12_0 m_19_20 m_0_1 m_12_1) rfl rfl rfl (by decide +kernel) ⟨Nat.le_of_ble_eq_true rfl, Nat.le_of_ble_eq_true rfl⟩) (va_recv (q0 := 0) hK hP rfl rfl) lm_bl_no (fun _ _ _ => trivial) hl.1 rfl rfl (Nat.le_of_ble_eq_true rfl) d_LazyMachine_stepPair_29 ⟨Nat.le_of_ble_eq_true rfl, Nat.le_of_ble_eq_true rfl⟩ (fun r29 u29 H locs w29 hP hD hS => ?_)
  obtain ⟨e_r29, w29⟩ := w29
  replace w29 := w29.symm
  subst w29
  have hP : va_P (dC, dI) classes (lz_W cA ad ((ss, sp, fo, ba, no, en, vs, vf, vg), SM, PM, XM, YM)) H := hP
  have hD : va_D A (lz_W cA ad ((ss, sp, fo, ba, no, en, vs, vf, vg), SM, PM, XM, YM)) := hD
  refine lv_aload_n hx hb d_LazyMachine_stepPair_32 rfl (lv_at hl 2 rfl) ?_
  refine lv_iload_n hx hb d_LazyMachine_stepPair_33 rfl (lv_at hl 0 rfl) ?_
  refine lm_vi (b := ad 0) (As := [.int r22]) (rest := [.int r29, .ref (ad 0)]) (wr := ([] : va_W)) ⟨hx, hb, hml, hown, hts⟩ hK hP hD hS hA [0, 1, 2, 3, 4, 5, 6, 7, 8, 9, 10, 11, 12, 13, 14, 15, 16, 17, 18, 19, 20, 21, 22, 23, 24, 25] [] rfl rfl (by decide) (by decide) (by decide) (c_LazyMachine_cellsFor l dC dI cA ad _ ((ss, sp, fo, ba, no, en, vs, vf, vg), SM, PM, XM, YM) r22 (by rw [e_r22]; exact nd_part ht hn (w := 1) (by decide))) (cwV 1 hts (lm_gV m_11_23 m_12_0 m_19_20 m_0_1 m_12_1) rfl rfl rfl (by decide +kernel) ⟨Nat.le_of_ble_eq_true rfl, Nat.le_of_ble_eq_true rfl⟩) (va_recv (q0 := 0) hK hP rfl rfl) lm_bl_no (fun _ _ _ => trivial) hl.1 rfl rfl (Nat.le_of_ble_eq_true rfl) d_LazyMachine_stepPair_34 ⟨Nat.le_of_ble_eq_true rfl, Nat.le_of_ble_eq_true rfl⟩ (fun r34 u34 H locs w34 hP hD hS => ?_)
  obtain ⟨e_r34, w34⟩ := w34
  replace w34 := w34.symm
  subst w34
  have hP : va_P (dC, dI) classes (lz_W cA ad ((ss, sp, fo, ba, no, en, vs, vf, vg), SM, PM, XM, YM)) H := hP
  have hD : va_D A (lz_W cA ad ((ss, sp, fo, ba, no, en, vs, vf, vg), SM, PM, XM, YM)) := hD
  refine lv_iadd hx hb d_LazyMachine_stepPair_37 ?_
  refine lm_vi (b := ad 0) (As := [.int (r29 + r34)]) (rest := []) (wr := ([] : va_W)) ⟨hx, hb, hml, hown, hts⟩ hK hP hD hS hA [0, 1, 2, 3, 4, 5, 6, 7, 8, 9, 10, 11, 12, 13, 14, 15, 16, 17, 18, 19, 20, 21, 22, 23, 24, 25] [] rfl rfl (by decide) (by decide) (by decide) (c_LazyMachine_hasRoomFor l dC dI cA ad _ ((ss, sp, fo, ba, no, en, vs, vf, vg), SM, PM, XM, YM) (r29 + r34) (by exact hi)) (cwV 1 hts (lm_gV m_8_7 m_8_8 m_19_10 m_0_1 m_8_9) rfl rfl rfl (by decide +kernel) ⟨Nat.le_of_ble_eq_true rfl, Nat.le_of_ble_eq_true rfl⟩) (va_recv (q0 := 0) hK hP rfl rfl) lm_bl_no (fun _ _ _ => trivial) hl.1 rfl rfl (Nat.le_of_ble_eq_true rfl) d_LazyMachine_stepPair_38 ⟨Nat.le_of_ble_eq_true rfl, Nat.le_of_ble_eq_true rfl⟩ (fun r38 u38 H locs w38 hP hD hS => ?_)
  obtain ⟨e_r38, w38⟩ := w38
  have hP : va_P (dC, dI) classes (lz_W cA ad u38) H := hP
  have hD : va_D A (lz_W cA ad u38) := hD
  refine lv_if_ne hx hb d_LazyMachine_stepPair_41 rfl (fun h41 => ?_) (fun h41 => ?_)
  · refine lv_aload_n hx hb d_LazyMachine_stepPair_47 rfl (lv_at hl 2 rfl) ?_
    refine lv_iload_n hx hb d_LazyMachine_stepPair_48 rfl (lv_at hl 1 rfl) ?_
    refine lm_vi (b := ad 0) (As := [.int r9]) (rest := []) (wr := ([] : va_W)) ⟨hx, hb, hml, hown, hts⟩ hK hP hD hS hA [0, 1, 2, 3, 4, 5, 6, 7, 8, 9, 10, 11, 12, 13, 14, 15, 16, 17, 18, 19, 20, 21, 22, 23, 24, 25] [] rfl rfl (by decide) (by decide) (by decide) (c_LazyMachine_thunkFor l dC dI cA ad _ u38 r9 (by rw [e_r9]; exact nd_part ht hn (w := 0) (by decide)) (by rw [w38]; exact (th_room hi ht he).1) (by rw [w38]; exact (th_room hi ht he).2.1) (by rw [w38]; exact (th_room hi ht he).2.2.1) (by rw [w38]; exact (th_room hi ht he).2.2.2)) (cwV 1 hts (lm_gV m_12_2 m_12_3 m_19_21 m_0_1 m_12_4) rfl rfl rfl (by decide +kernel) ⟨Nat.le_of_ble_eq_true rfl, Nat.le_of_ble_eq_true rfl⟩) (va_recv (q0 := 0) hK hP rfl rfl) lm_bl_no (fun _ _ _ => trivial) hl.1 rfl rfl (Nat.le_of_ble_eq_true rfl) d_LazyMachine_stepPair_49 ⟨Nat.le_of_ble_eq_true rfl, Nat.le_of_ble_eq_true rfl⟩ (fun r49 u49 H locs w49 hP hD hS => ?_)
    obtain ⟨e_r49, w49⟩ := w49
    have hP : va_P (dC, dI) classes (lz_W cA ad u49) H := hP
    have hD : va_D A (lz_W cA ad u49) := hD
    refine lv_istore_n (lv' := [(3, .int r49), (2, .int r22), (1, .int r9), (0, .ref (ad 0))]) hx hb d_LazyMachine_stepPair_52 rfl hl (by decide) rfl (fun ls hl => ?_)
    refine lv_aload_n hx hb d_LazyMachine_stepPair_53 rfl (lv_at hl 3 rfl) ?_
    refine lv_iconst (v := 2) hx hb d_LazyMachine_stepPair_54 (by decide) ?_
    refine lv_iload_n hx hb d_LazyMachine_stepPair_55 rfl (lv_at hl 0 rfl) ?_
    refine lv_aload_n hx hb d_LazyMachine_stepPair_56 rfl (lv_at hl 3 rfl) ?_
    refine lv_iload_n hx hb d_LazyMachine_stepPair_57 rfl (lv_at hl 1 rfl) ?_
    refine lm_vi (b := ad 0) (As := [.int r22]) (rest := [.int r49, .int 2, .ref (ad 0)]) (wr := ([] : va_W)) ⟨hx, hb, hml, hown, hts⟩ hK hP hD hS hA [0, 1, 2, 3, 4, 5, 6, 7, 8, 9, 10, 11, 12, 13, 14, 15, 16, 17, 18, 19, 20, 21, 22, 23, 24, 25] [] rfl rfl (by decide) (by decide) (by decide) (c_LazyMachine_thunkFor l dC dI cA ad _ u49 r22 (by rw [e_r22]; exact nd_part ht hn (w := 1) (by decide)) (by rw [w49]; exact hp_se_thunk (by rw [w38]; exact (th_room hi ht he).1) (by rw [w38]; exact (th_room hi ht he).2.2.1)) (by rw [w49]; exact hp_fok_thunk (by rw [w38]; exact (th_room hi ht he).2.1)) (by rw [w49, ma_thunk_en]; rw [w38]; exact (th_room hi ht he).2.2.1) (by rw [w49, ma_thunk_Y]; rw [w38]; exact (th_room hi ht he).2.2.2)) (cwV 1 hts (lm_gV m_12_2 m_12_3 m_19_21 m_0_1 m_12_4) rfl rfl rfl (by decide +kernel) ⟨Nat.le_of_ble_eq_true rfl, Nat.le_of_ble_eq_true rfl⟩) (va_recv (q0 := 0) hK hP rfl rfl) lm_bl_no (fun _ _ _ => trivial) hl.1 rfl rfl (Nat.le_of_ble_eq_true rfl) d_LazyMachine_stepPair_58 ⟨Nat.le_of_ble_eq_true rfl, Nat.le_of_ble_eq_true rfl⟩ (fun r58 u58 H locs w58 hP hD hS => ?_)
    obtain ⟨e_r58, w58⟩ := w58
    have hP : va_P (dC, dI) classes (lz_W cA ad u58) H := hP
    have hD : va_D A (lz_W cA ad u58) := hD
    refine lm_vi (b := ad 0) (As := [.int 2, .int r49, .int r58]) (rest := []) (wr := ([] : va_W)) ⟨hx, hb, hml, hown, hts⟩ hK hP hD hS hA [0, 1, 2, 3, 4, 5, 6, 7, 8, 9, 10, 11, 12, 13, 14, 15, 16, 17, 18, 19, 20, 21, 22, 23, 24, 25] [] rfl rfl (by decide) (by decide) (by decide) (c_LazyMachine_backWith l dC dI cA ad _ u58 2 r49 r58 ) (cwV 3 hts (lm_gV m_10_7 m_10_8 m_19_14 m_0_1 m_10_9) rfl rfl rfl (by decide +kernel) ⟨Nat.le_of_ble_eq_true rfl, Nat.le_of_ble_eq_true rfl⟩) (va_recv (q0 := 0) hK hP rfl rfl) lm_bl_no (fun _ _ _ => trivial) hl.1 rfl rfl (Nat.le_of_ble_eq_true rfl) d_LazyMachine_stepPair_61 ⟨Nat.le_of_ble_eq_true rfl, Nat.le_of_ble_eq_true rfl⟩ (fun r61 u61 H locs w61 hP hD hS => ?_)
    obtain ⟨e_r61, w61⟩ := w61
    replace e_r61 := e_r61.symm
    subst e_r61
    have w61 : u61 = ((u58.1.1, u58.1.2.1, u58.1.2.2.1, 1, u58.1.2.2.2.2.1, u58.1.2.2.2.2.2.1, 2, r49, r58), u58.2.1, u58.2.2.1, u58.2.2.2.1, u58.2.2.2.2) := w61
    subst w61
    have hP : va_P (dC, dI) classes (lz_W cA ad ((u58.1.1, u58.1.2.1, u58.1.2.2.1, 1, u58.1.2.2.2.2.1, u58.1.2.2.2.2.2.1, 2, r49, r58), u58.2.1, u58.2.2.1, u58.2.2.2.1, u58.2.2.2.2)) H := hP
    have hD : va_D A (lz_W cA ad ((u58.1.1, u58.1.2.1, u58.1.2.2.1, 1, u58.1.2.2.2.2.1, u58.1.2.2.2.2.2.1, 2, r49, r58), u58.2.1, u58.2.2.1, u58.2.2.2.1, u58.2.2.2.2)) := hD
    refine lm_ri (v := 1) hx hb hr hlocks ((u58.1.1, u58.1.2.1, u58.1.2.2.1, 1, u58.1.2.2.2.2.1, u58.1.2.2.2.2.2.1, 2, r49, r58), u58.2.1, u58.2.2.1, u58.2.2.2.1, u58.2.2.2.2) ?_ hP hK hD hS d_LazyMachine_stepPair_64
    subst e_r9 e_r22 e_r29 e_r34 e_r38 w38 e_r49 w49 e_r58 w58; unfold ma_pair ma_pairM; (first | rw [if_pos h41] | rw [if_neg h41]); exact ⟨rfl, rfl⟩
  · refine lv_bipush (v := 6) hx hb d_LazyMachine_stepPair_44 (by decide) ?_
    refine lm_ri (v := 6) hx hb hr hlocks u38 ?_ hP hK hD hS d_LazyMachine_stepPair_46
    subst e_r9 e_r22 e_r29 e_r34 e_r38 w38; unfold ma_pair ma_pairM; (first | rw [if_pos h41] | rw [if_neg h41]); exact ⟨rfl, rfl⟩
set_option maxHeartbeats 4000000 in
set_option maxRecDepth 100000 in
theorem c_LazyMachine_enterFunction (l : Launch) (dC : Nat → ClassId) (dI : Nat → Nat → Nat) (cA : ClassId)  (ad : Nat → Nat) (sz : Nat) (M : ZMS) (x : Int32) (hv : vp_in (l_vf M) 200) (hf : hp_fok (m_H M)) : Met l y_LazyMachine_enterFunction w_LazyMachine_enterFunction ({ frames := 2, cells := 0, slots := 0, locals := 48 } : Room) (va_Pc [.ref (ad 0), .int x] (lm_pre (dC, dI) classes [(cA, .int)] (lz_W cA ad M) sz lm_no)) (va_Qv (fun (u : ZMS) => u = ma_fun M x) (fun u => lm_at (dC, dI) classes [(cA, .int)] (va_A (lz_W cA ad M) sz) (lz_W cA ad u)) (va_A (lz_W cA ad M) sz)) 0 0 (va_A (lz_W cA ad M) sz) := by
  obtain ⟨⟨ss, sp, fo, ba, no, en, vs, vf, vg⟩, SM, PM, XM, YM⟩ := M
  refine lm_met (fun A => va_Qv (fun (u : ZMS) => u = ma_fun ((ss, sp, fo, ba, no, en, vs, vf, vg), SM, PM, XM, YM) x) (fun u => lm_at (dC, dI) classes [(cA, .int)] A (lz_W cA ad u)) A) (by decide) rfl (Nat.le_of_ble_eq_true rfl) ?_
  intro p e s m below meth c A hx hb hr hts hown hlocks hname hml hK hP hD hA hE hsz hAe hS ls hl
  replace hl : lv_has ls 2 [(0, .ref (ad 0)), (1, .int x)] := hl
  clear hAe hsz
  refine lv_aload_n hx hb d_LazyMachine_enterFunction_0 rfl (lv_at hl 0 rfl) ?_
  refine lv_aload_n hx hb d_LazyMachine_enterFunction_1 rfl (lv_at hl 0 rfl) ?_
  refine va_get (D := (dC, dI)) (ci := 0) (v := .ref (ad 19)) (C := R_LazyMachine) (T := F_LazyMachine) (N := 13) hx hb hts (fun q hq => List.mem_cons_of_mem _ (i_LazyMachine q hq)) hown hK hP 0 rfl rfl 3 (by decide) (hts _ (List.mem_cons_of_mem _ m_2_10)) (fun _ h9 => h9) rfl d_LazyMachine_enterFunction_2 ?_
  refine lv_aload_n hx hb d_LazyMachine_enterFunction_5 rfl (lv_at hl 0 rfl) ?_
  refine va_get (D := (dC, dI)) (ci := 0) (v := .int vf) (C := R_LazyMachine) (T := F_LazyMachine) (N := 13) hx hb hts (fun q hq => List.mem_cons_of_mem _ (i_LazyMachine q hq)) hown hK hP 0 rfl rfl 11 (by decide) (hts _ (List.mem_cons_of_mem _ m_2_18)) (fun _ h9 => h9) rfl d_LazyMachine_enterFunction_6 ?_
  refine lv_iconst (v := 0) hx hb d_LazyMachine_enterFunction_9 (by decide) ?_
  refine lm_vi (b := ad 19) (As := [.int vf, .int 0]) (rest := [.ref (ad 0)]) (wr := (ma_W cA ad (ss, sp, fo, ba, no, en, vs, vf, vg)) ++ (hp_W cA (fun k => ad (k + 1)) SM) ++ (pl_W cA (fun k => ad (k + 8)) PM) ++ (tm_W cA (fun k => ad (k + 12)) XM)) ⟨hx, hb, hml, hown, hts⟩ hK hP hD hS hA [19, 20, 21, 22, 23, 24, 25] [0, 1, 2, 3, 4, 5, 6, 7, 8, 9, 10, 11, 12, 13, 14, 15, 16, 17, 18] rfl rfl (by decide) (by decide) (by decide) (c_Term_part l dC dI cA (fun k => ad (k + 19)) _ YM vf 0 (by exact nd_ix hv (w := 0) (by decide))) (cwV 2 hts (lm_gV m_8_18 m_8_19 m_8_20 m_0_4 m_8_21) rfl rfl rfl (by decide +kernel) ⟨Nat.le_of_ble_eq_true rfl, Nat.le_of_ble_eq_true rfl⟩) (va_recv (q0 := 19) hK hP rfl rfl) lm_bl_no (fun _ _ _ => trivial) hl.1 rfl rfl (Nat.le_of_ble_eq_true rfl) d_LazyMachine_enterFunction_10 ⟨Nat.le_of_ble_eq_true rfl, Nat.le_of_ble_eq_true rfl⟩ (fun r10 u10 H locs w10 hP hD hS => ?_)
  obtain ⟨e_r10, w10⟩ := w10
  replace w10 := w10.symm
  subst w10
  have hP : va_P (dC, dI) classes (lz_W cA ad ((ss, sp, fo, ba, no, en, vs, vf, vg), SM, PM, XM, YM)) H := hP
  have hD : va_D A (lz_W cA ad ((ss, sp, fo, ba, no, en, vs, vf, vg), SM, PM, XM, YM)) := hD
  refine lv_aload_n hx hb d_LazyMachine_enterFunction_13 rfl (lv_at hl 0 rfl) ?_
  refine va_get (D := (dC, dI)) (ci := 0) (v := .ref (ad 1)) (C := R_LazyMachine) (T := F_LazyMachine) (N := 13) hx hb hts (fun q hq => List.mem_cons_of_mem _ (i_LazyMachine q hq)) hown hK hP 0 rfl rfl 0 (by decide) (hts _ (List.mem_cons_of_mem _ m_2_7)) (fun _ h9 => h9) rfl d_LazyMachine_enterFunction_14 ?_
  refine lv_iconst (v := 5) hx hb d_LazyMachine_enterFunction_17 (by decide) ?_
  refine lv_iload_n hx hb d_LazyMachine_enterFunction_18 rfl (lv_at hl 1 rfl) ?_
  refine lv_aload_n hx hb d_LazyMachine_enterFunction_19 rfl (lv_at hl 0 rfl) ?_
  refine va_get (D := (dC, dI)) (ci := 0) (v := .int vg) (C := R_LazyMachine) (T := F_LazyMachine) (N := 13) hx hb hts (fun q hq => List.mem_cons_of_mem _ (i_LazyMachine q hq)) hown hK hP 0 rfl rfl 12 (by decide) (hts _ (List.mem_cons_of_mem _ m_2_19)) (fun _ h9 => h9) rfl d_LazyMachine_enterFunction_20 ?_
  refine lm_vi (b := ad 1) (As := [.int 5, .int x, .int vg]) (rest := [.int r10, .ref (ad 0)]) (wr := (ma_W cA ad (ss, sp, fo, ba, no, en, vs, vf, vg)) ++ (pl_W cA (fun k => ad (k + 8)) PM) ++ (tm_W cA (fun k => ad (k + 12)) XM) ++ (tm_W cA (fun k => ad (k + 19)) YM)) ⟨hx, hb, hml, hown, hts⟩ hK hP hD hS hA [1, 2, 3, 4, 5, 6, 7] [0, 8, 9, 10, 11, 12, 13, 14, 15, 16, 17, 18, 19, 20, 21, 22, 23, 24, 25] rfl rfl (by decide) (by decide) (by decide) (c_Heap_take l dC dI cA (fun k => ad (k + 1)) _ SM 5 x vg (by exact hf)) (cwV 3 hts (lm_gV m_8_22 m_8_23 m_9_0 m_0_2 m_9_1) rfl rfl rfl (by decide +kernel) ⟨Nat.le_of_ble_eq_true rfl, Nat.le_of_ble_eq_true rfl⟩) (va_recv (q0 := 1) hK hP rfl rfl) lm_bl_no (fun _ _ _ => trivial) hl.1 rfl rfl (Nat.le_of_ble_eq_true rfl) d_LazyMachine_enterFunction_23 ⟨Nat.le_of_ble_eq_true rfl, Nat.le_of_ble_eq_true rfl⟩ (fun r23 u23 H locs w23 hP hD hS => ?_)
  obtain ⟨e_r23, w23⟩ := w23
  have hP : va_P (dC, dI) classes (lz_W cA ad ((ss, sp, fo, ba, no, en, vs, vf, vg), u23, PM, XM, YM)) H := hP.sub [0, 19, 20, 21, 22, 23, 24, 25, 1, 2, 3, 4, 5, 6, 7, 8, 9, 10, 11, 12, 13, 14, 15, 16, 17, 18] rfl
  have hD : va_D A (lz_W cA ad ((ss, sp, fo, ba, no, en, vs, vf, vg), u23, PM, XM, YM)) := hD.sub [0, 19, 20, 21, 22, 23, 24, 25, 1, 2, 3, 4, 5, 6, 7, 8, 9, 10, 11, 12, 13, 14, 15, 16, 17, 18] (by decide) rfl
  refine lm_vv (b := ad 0) (As := [.int r10, .int r23]) (rest := []) (wr := ([] : va_W)) ⟨hx, hb, hml, hown, hts⟩ hK hP hD hS hA [0, 1, 2, 3, 4, 5, 6, 7, 8, 9, 10, 11, 12, 13, 14, 15, 16, 17, 18, 19, 20, 21, 22, 23, 24, 25] [] rfl rfl (by decide) (by decide) (by decide) (c_LazyMachine_enter l dC dI cA ad _ ((ss, sp, fo, ba, no, en, vs, vf, vg), u23, PM, XM, YM) r10 r23 ) (cwV 2 hts (lm_gV m_4_9 m_4_10 m_19_6 m_0_1 m_4_11) rfl rfl rfl (by decide +kernel) ⟨Nat.le_of_ble_eq_true rfl, Nat.le_of_ble_eq_true rfl⟩) (va_recv (q0 := 0) hK hP rfl rfl) lm_bl_no (fun _ _ _ => trivial) hl.1 rfl rfl (Nat.le_of_ble_eq_true rfl) d_LazyMachine_enterFunction_26 ⟨Nat.le_of_ble_eq_true rfl, Nat.le_of_ble_eq_true rfl⟩ (fun u26 H locs w26 hP hD hS => ?_)
  have w26 : u26 = ((ss, sp, fo, 0, r10, r23, vs, vf, vg), u23, PM, XM, YM) := w26
  subst w26
  have hP : va_P (dC, dI) classes (lz_W cA ad ((ss, sp, fo, 0, r10, r23, vs, vf, vg), u23, PM, XM, YM)) H := hP
  have hD : va_D A (lz_W cA ad ((ss, sp, fo, 0, r10, r23, vs, vf, vg), u23, PM, XM, YM)) := hD
  refine lm_rv hx hb hr hlocks ((ss, sp, fo, 0, r10, r23, vs, vf, vg), u23, PM, XM, YM) ?_ hP hK hD hS d_LazyMachine_enterFunction_29
  subst e_r10 e_r23 w23; unfold ma_fun ma_link; rfl
set_option maxHeartbeats 4000000 in
set_option maxRecDepth 100000 in
theorem c_LazyMachine_stepArgument (l : Launch) (dC : Nat → ClassId) (dI : Nat → Nat → Nat) (cA : ClassId)  (ad : Nat → Nat) (sz : Nat) (M : ZMS) (x : Int32) (hi : ma_lo M) (hv : l_vs M = 1 → vp_in (l_vf M) 200) : Met l y_LazyMachine_stepArgument w_LazyMachine_stepArgument ({ frames := 4, cells := 0, slots := 0, locals := 87 } : Room) (va_Pc [.ref (ad 0), .int x] (lm_pre (dC, dI) classes [(cA, .int)] (lz_W cA ad M) sz lm_no)) (va_Qi (fun (r : Int32) (u : ZMS) => r = (ma_arg M x).1 ∧ u = (ma_arg M x).2) (fun u => lm_at (dC, dI) classes [(cA, .int)] (va_A (lz_W cA ad M) sz) (lz_W cA ad u)) (va_A (lz_W cA ad M) sz)) 0 0 (va_A (lz_W cA ad M) sz) := by
  obtain ⟨⟨ss, sp, fo, ba, no, en, vs, vf, vg⟩, SM, PM, XM, YM⟩ := M
  refine lm_met (fun A => va_Qi (fun (r : Int32) (u : ZMS) => r = (ma_arg ((ss, sp, fo, ba, no, en, vs, vf, vg), SM, PM, XM, YM) x).1 ∧ u = (ma_arg ((ss, sp, fo, ba, no, en, vs, vf, vg), SM, PM, XM, YM) x).2) (fun u => lm_at (dC, dI) classes [(cA, .int)] A (lz_W cA ad u)) A) (by decide) rfl (Nat.le_of_ble_eq_true rfl) ?_
  intro p e s m below meth c A hx hb hr hts hown hlocks hname hml hK hP hD hA hE hsz hAe hS ls hl
  replace hl : lv_has ls 2 [(0, .ref (ad 0)), (1, .int x)] := hl
  clear hAe hsz
  refine lv_aload_n hx hb d_LazyMachine_stepArgument_0 rfl (lv_at hl 0 rfl) ?_
  refine va_get (D := (dC, dI)) (ci := 0) (v := .int vs) (C := R_LazyMachine) (T := F_LazyMachine) (N := 13) hx hb hts (fun q hq => List.mem_cons_of_mem _ (i_LazyMachine q hq)) hown hK hP 0 rfl rfl 10 (by decide) (hts _ (List.mem_cons_of_mem _ m_2_17)) (fun _ h9 => h9) rfl d_LazyMachine_stepArgument_1 ?_
  refine lv_iconst (v := 1) hx hb d_LazyMachine_stepArgument_4 (by decide) ?_
  refine lv_icmp_eq hx hb d_LazyMachine_stepArgument_5 rfl (fun h5 => ?_) (fun h5 => ?_)
  · refine lv_aload_n hx hb d_LazyMachine_stepArgument_10 rfl (lv_at hl 0 rfl) ?_
    refine lv_iconst (v := 1) hx hb d_LazyMachine_stepArgument_11 (by decide) ?_
    refine lm_vi (b := ad 0) (As := [.int 1]) (rest := []) (wr := ([] : va_W)) ⟨hx, hb, hml, hown, hts⟩ hK hP hD hS hA [0, 1, 2, 3, 4, 5, 6, 7, 8, 9, 10, 11, 12, 13, 14, 15, 16, 17, 18, 19, 20, 21, 22, 23, 24, 25] [] rfl rfl (by decide) (by decide) (by decide) (c_LazyMachine_hasRoomFor l dC dI cA ad _ ((ss, sp, fo, ba, no, en, vs, vf, vg), SM, PM, XM, YM) 1 (by exact hi)) (cwV 1 hts (lm_gV m_8_7 m_8_8 m_19_10 m_0_1 m_8_9) rfl rfl rfl (by decide +kernel) ⟨Nat.le_of_ble_eq_true rfl, Nat.le_of_ble_eq_true rfl⟩) (va_recv (q0 := 0) hK hP rfl rfl) lm_bl_no (fun _ _ _ => trivial) hl.1 rfl rfl (Nat.le_of_ble_eq_true rfl) d_LazyMachine_stepArgument_12 ⟨Nat.le_of_ble_eq_true rfl, Nat.le_of_ble_eq_true rfl⟩ (fun r12 u12 H locs w12 hP hD hS => ?_)
    obtain ⟨e_r12, w12⟩ := w12
    have hP : va_P (dC, dI) classes (lz_W cA ad u12) H := hP
    have hD : va_D A (lz_W cA ad u12) := hD
    refine lv_if_ne hx hb d_LazyMachine_stepArgument_15 rfl (fun h15 => ?_) (fun h15 => ?_)
    · refine lv_aload_n hx hb d_LazyMachine_stepArgument_21 rfl (lv_at hl 0 rfl) ?_
      refine va_get (D := (dC, dI)) (ci := 0) (v := .ref (ad 8)) (C := R_LazyMachine) (T := F_LazyMachine) (N := 13) hx hb hts (fun q hq => List.mem_cons_of_mem _ (i_LazyMachine q hq)) hown hK hP 0 rfl rfl 1 (by decide) (hts _ (List.mem_cons_of_mem _ m_2_8)) (fun _ h9 => h9) rfl d_LazyMachine_stepArgument_22 ?_
      refine lm_vv (b := ad 8) (As := []) (rest := []) (wr := (ma_W cA ad u12.1) ++ (hp_W cA (fun k => ad (k + 1)) u12.2.1) ++ (tm_W cA (fun k => ad (k + 12)) u12.2.2.2.1) ++ (tm_W cA (fun k => ad (k + 19)) u12.2.2.2.2)) ⟨hx, hb, hml, hown, hts⟩ hK hP hD hS hA [8, 9, 10, 11] [0, 1, 2, 3, 4, 5, 6, 7, 12, 13, 14, 15, 16, 17, 18, 19, 20, 21, 22, 23, 24, 25] rfl rfl (by decide) (by decide) (by decide) (c_Pile_drop l dC dI cA (fun k => ad (k + 8)) _ u12.2.2.1  ) (cwV 0 hts (lm_gV m_7_20 m_7_21 m_7_22 m_0_3 m_7_23) rfl rfl rfl (by decide +kernel) ⟨Nat.le_of_ble_eq_true rfl, Nat.le_of_ble_eq_true rfl⟩) (va_recv (q0 := 8) hK hP rfl rfl) lm_bl_no (fun _ _ _ => trivial) hl.1 rfl rfl (Nat.le_of_ble_eq_true rfl) d_LazyMachine_stepArgument_25 ⟨Nat.le_of_ble_eq_true rfl, Nat.le_of_ble_eq_true rfl⟩ (fun u25 H locs w25 hP hD hS => ?_)
      have hP : va_P (dC, dI) classes (lz_W cA ad (u12.1, u12.2.1, u25, u12.2.2.2.1, u12.2.2.2.2)) H := hP.sub [0, 1, 2, 3, 4, 5, 6, 7, 22, 23, 24, 25, 8, 9, 10, 11, 12, 13, 14, 15, 16, 17, 18, 19, 20, 21] rfl
      have hD : va_D A (lz_W cA ad (u12.1, u12.2.1, u25, u12.2.2.2.1, u12.2.2.2.2)) := hD.sub [0, 1, 2, 3, 4, 5, 6, 7, 22, 23, 24, 25, 8, 9, 10, 11, 12, 13, 14, 15, 16, 17, 18, 19, 20, 21] (by decide) rfl
      refine lv_aload_n hx hb d_LazyMachine_stepArgument_28 rfl (lv_at hl 0 rfl) ?_
      refine lv_iload_n hx hb d_LazyMachine_stepArgument_29 rfl (lv_at hl 1 rfl) ?_
      refine lm_vv (b := ad 0) (As := [.int x]) (rest := []) (wr := ([] : va_W)) ⟨hx, hb, hml, hown, hts⟩ hK hP hD hS hA [0, 1, 2, 3, 4, 5, 6, 7, 8, 9, 10, 11, 12, 13, 14, 15, 16, 17, 18, 19, 20, 21, 22, 23, 24, 25] [] rfl rfl (by decide) (by decide) (by decide) (c_LazyMachine_enterFunction l dC dI cA ad _ (u12.1, u12.2.1, u25, u12.2.2.2.1, u12.2.2.2.2) x (by show vp_in (l_vf u12) 200; rw [w12, ma_room_vf]; exact hv h5) (by show hp_fok (m_H u12); rw [w12]; exact (ma_lo_room hi).2.1)) (cwV 1 hts (lm_gV m_8_15 m_8_16 m_19_11 m_0_1 m_8_17) rfl rfl rfl (by decide +kernel) ⟨Nat.le_of_ble_eq_true rfl, Nat.le_of_ble_eq_true rfl⟩) (va_recv (q0 := 0) hK hP rfl rfl) lm_bl_no (fun _ _ _ => trivial) hl.1 rfl rfl (Nat.le_of_ble_eq_true rfl) d_LazyMachine_stepArgument_30 ⟨Nat.le_of_ble_eq_true rfl, Nat.le_of_ble_eq_true rfl⟩ (fun u30 H locs w30 hP hD hS => ?_)
      have hP : va_P (dC, dI) classes (lz_W cA ad u30) H := hP
      have hD : va_D A (lz_W cA ad u30) := hD
      refine lv_iconst (v := 1) hx hb d_LazyMachine_stepArgument_33 (by decide) ?_
      refine lm_ri (v := 1) hx hb hr hlocks u30 ?_ hP hK hD hS d_LazyMachine_stepArgument_34
      subst e_r12 w12 w25 w30; unfold ma_arg; (first | rw [if_pos h5] | rw [if_neg h5]); (first | rw [if_pos h15] | rw [if_neg h15]); exact ⟨rfl, rfl⟩
    · refine lv_bipush (v := 6) hx hb d_LazyMachine_stepArgument_18 (by decide) ?_
      refine lm_ri (v := 6) hx hb hr hlocks u12 ?_ hP hK hD hS d_LazyMachine_stepArgument_20
      subst e_r12 w12; unfold ma_arg; (first | rw [if_pos h5] | rw [if_neg h5]); (first | rw [if_pos h15] | rw [if_neg h15]); exact ⟨rfl, rfl⟩
  · refine lv_iconst (v := 3) hx hb d_LazyMachine_stepArgument_8 (by decide) ?_
    refine lm_ri (v := 3) hx hb hr hlocks ((ss, sp, fo, ba, no, en, vs, vf, vg), SM, PM, XM, YM) ?_ hP hK hD hS d_LazyMachine_stepArgument_9
    unfold ma_arg; (first | rw [if_pos h5] | rw [if_neg h5]); exact ⟨rfl, rfl⟩
set_option maxHeartbeats 4000000 in
set_option maxRecDepth 100000 in
theorem c_LazyMachine_stepLeft (l : Launch) (dC : Nat → ClassId) (dI : Nat → Nat → Nat) (cA : ClassId)  (ad : Nat → Nat) (sz : Nat) (M : ZMS) (x1 x2 : Int32) (hz : pl_ok (m_P M)) (hx1 : vp_in x1 200) : Met l y_LazyMachine_stepLeft w_LazyMachine_stepLeft ({ frames := 2, cells := 0, slots := 0, locals := 43 } : Room) (va_Pc [.ref (ad 0), .int x1, .int x2] (lm_pre (dC, dI) classes [(cA, .int)] (lz_W cA ad M) sz lm_no)) (va_Qi (fun (r : Int32) (u : ZMS) => r = (ma_left M x1 x2).1 ∧ u = (ma_left M x1 x2).2) (fun u => lm_at (dC, dI) classes [(cA, .int)] (va_A (lz_W cA ad M) sz) (lz_W cA ad u)) (va_A (lz_W cA ad M) sz)) 0 0 (va_A (lz_W cA ad M) sz) := by
  obtain ⟨⟨ss, sp, fo, ba, no, en, vs, vf, vg⟩, SM, PM, XM, YM⟩ := M
  refine lm_met (fun A => va_Qi (fun (r : Int32) (u : ZMS) => r = (ma_left ((ss, sp, fo, ba, no, en, vs, vf, vg), SM, PM, XM, YM) x1 x2).1 ∧ u = (ma_left ((ss, sp, fo, ba, no, en, vs, vf, vg), SM, PM, XM, YM) x1 x2).2) (fun u => lm_at (dC, dI) classes [(cA, .int)] A (lz_W cA ad u)) A) (by decide) rfl (Nat.le_of_ble_eq_true rfl) ?_
  intro p e s m below meth c A hx hb hr hts hown hlocks hname hml hK hP hD hA hE hsz hAe hS ls hl
  replace hl : lv_has ls 3 [(0, .ref (ad 0)), (1, .int x1), (2, .int x2)] := hl
  clear hAe hsz
  refine lv_aload_n hx hb d_LazyMachine_stepLeft_0 rfl (lv_at hl 0 rfl) ?_
  refine va_get (D := (dC, dI)) (ci := 0) (v := .int vs) (C := R_LazyMachine) (T := F_LazyMachine) (N := 13) hx hb hts (fun q hq => List.mem_cons_of_mem _ (i_LazyMachine q hq)) hown hK hP 0 rfl rfl 10 (by decide) (hts _ (List.mem_cons_of_mem _ m_2_17)) (fun _ h9 => h9) rfl d_LazyMachine_stepLeft_1 ?_
  refine lv_if_eq hx hb d_LazyMachine_stepLeft_4 rfl (fun h4 => ?_) (fun h4 => ?_)
  · refine lv_aload_n hx hb d_LazyMachine_stepLeft_9 rfl (lv_at hl 0 rfl) ?_
    refine va_get (D := (dC, dI)) (ci := 0) (v := .ref (ad 8)) (C := R_LazyMachine) (T := F_LazyMachine) (N := 13) hx hb hts (fun q hq => List.mem_cons_of_mem _ (i_LazyMachine q hq)) hown hK hP 0 rfl rfl 1 (by decide) (hts _ (List.mem_cons_of_mem _ m_2_8)) (fun _ h9 => h9) rfl d_LazyMachine_stepLeft_10 ?_
    refine lm_vv (b := ad 8) (As := []) (rest := []) (wr := (ma_W cA ad (ss, sp, fo, ba, no, en, vs, vf, vg)) ++ (hp_W cA (fun k => ad (k + 1)) SM) ++ (tm_W cA (fun k => ad (k + 12)) XM) ++ (tm_W cA (fun k => ad (k + 19)) YM)) ⟨hx, hb, hml, hown, hts⟩ hK hP hD hS hA [8, 9, 10, 11] [0, 1, 2, 3, 4, 5, 6, 7, 12, 13, 14, 15, 16, 17, 18, 19, 20, 21, 22, 23, 24, 25] rfl rfl (by decide) (by decide) (by decide) (c_Pile_drop l dC dI cA (fun k => ad (k + 8)) _ PM  ) (cwV 0 hts (lm_gV m_7_20 m_7_21 m_7_22 m_0_3 m_7_23) rfl rfl rfl (by decide +kernel) ⟨Nat.le_of_ble_eq_true rfl, Nat.le_of_ble_eq_true rfl⟩) (va_recv (q0 := 8) hK hP rfl rfl) lm_bl_no (fun _ _ _ => trivial) hl.1 rfl rfl (Nat.le_of_ble_eq_true rfl) d_LazyMachine_stepLeft_13 ⟨Nat.le_of_ble_eq_true rfl, Nat.le_of_ble_eq_true rfl⟩ (fun u13 H locs w13 hP hD hS => ?_)
    have hP : va_P (dC, dI) classes (lz_W cA ad ((ss, sp, fo, ba, no, en, vs, vf, vg), SM, u13, XM, YM)) H := hP.sub [0, 1, 2, 3, 4, 5, 6, 7, 22, 23, 24, 25, 8, 9, 10, 11, 12, 13, 14, 15, 16, 17, 18, 19, 20, 21] rfl
    have hD : va_D A (lz_W cA ad ((ss, sp, fo, ba, no, en, vs, vf, vg), SM, u13, XM, YM)) := hD.sub [0, 1, 2, 3, 4, 5, 6, 7, 22, 23, 24, 25, 8, 9, 10, 11, 12, 13, 14, 15, 16, 17, 18, 19, 20, 21] (by decide) rfl
    refine lv_aload_n hx hb d_LazyMachine_stepLeft_16 rfl (lv_at hl 0 rfl) ?_
    refine va_get (D := (dC, dI)) (ci := 0) (v := .ref (ad 8)) (C := R_LazyMachine) (T := F_LazyMachine) (N := 13) hx hb hts (fun q hq => List.mem_cons_of_mem _ (i_LazyMachine q hq)) hown hK hP 0 rfl rfl 1 (by decide) (hts _ (List.mem_cons_of_mem _ m_2_8)) (fun _ h9 => h9) rfl d_LazyMachine_stepLeft_17 ?_
    refine lv_iconst (v := 3) hx hb d_LazyMachine_stepLeft_20 (by decide) ?_
    refine lv_iload_n hx hb d_LazyMachine_stepLeft_21 rfl (lv_at hl 1 rfl) ?_
    refine lv_aload_n hx hb d_LazyMachine_stepLeft_22 rfl (lv_at hl 0 rfl) ?_
    refine va_get (D := (dC, dI)) (ci := 0) (v := .int vf) (C := R_LazyMachine) (T := F_LazyMachine) (N := 13) hx hb hts (fun q hq => List.mem_cons_of_mem _ (i_LazyMachine q hq)) hown hK hP 0 rfl rfl 11 (by decide) (hts _ (List.mem_cons_of_mem _ m_2_18)) (fun _ h9 => h9) rfl d_LazyMachine_stepLeft_23 ?_
    refine lm_vv (b := ad 8) (As := [.int 3, .int x1, .int vf]) (rest := []) (wr := (ma_W cA ad (ss, sp, fo, ba, no, en, vs, vf, vg)) ++ (hp_W cA (fun k => ad (k + 1)) SM) ++ (tm_W cA (fun k => ad (k + 12)) XM) ++ (tm_W cA (fun k => ad (k + 19)) YM)) ⟨hx, hb, hml, hown, hts⟩ hK hP hD hS hA [8, 9, 10, 11] [0, 1, 2, 3, 4, 5, 6, 7, 12, 13, 14, 15, 16, 17, 18, 19, 20, 21, 22, 23, 24, 25] rfl rfl (by decide) (by decide) (by decide) (c_Pile_add l dC dI cA (fun k => ad (k + 8)) _ u13 3 x1 vf (by rw [w13]; exact pl_ok_drop hz)) (cwV 3 hts (lm_gV m_9_10 m_9_11 m_9_12 m_0_3 m_9_13) rfl rfl rfl (by decide +kernel) ⟨Nat.le_of_ble_eq_true rfl, Nat.le_of_ble_eq_true rfl⟩) (va_recv (q0 := 8) hK hP rfl rfl) lm_bl_no (fun _ _ _ => trivial) hl.1 rfl rfl (Nat.le_of_ble_eq_true rfl) d_LazyMachine_stepLeft_26 ⟨Nat.le_of_ble_eq_true rfl, Nat.le_of_ble_eq_true rfl⟩ (fun u26 H locs w26 hP hD hS => ?_)
    have hP : va_P (dC, dI) classes (lz_W cA ad ((ss, sp, fo, ba, no, en, vs, vf, vg), SM, u26, XM, YM)) H := hP.sub [0, 1, 2, 3, 4, 5, 6, 7, 22, 23, 24, 25, 8, 9, 10, 11, 12, 13, 14, 15, 16, 17, 18, 19, 20, 21] rfl
    have hD : va_D A (lz_W cA ad ((ss, sp, fo, ba, no, en, vs, vf, vg), SM, u26, XM, YM)) := hD.sub [0, 1, 2, 3, 4, 5, 6, 7, 22, 23, 24, 25, 8, 9, 10, 11, 12, 13, 14, 15, 16, 17, 18, 19, 20, 21] (by decide) rfl
    refine lv_aload_n hx hb d_LazyMachine_stepLeft_29 rfl (lv_at hl 0 rfl) ?_
    refine lv_aload_n hx hb d_LazyMachine_stepLeft_30 rfl (lv_at hl 0 rfl) ?_
    refine va_get (D := (dC, dI)) (ci := 0) (v := .ref (ad 19)) (C := R_LazyMachine) (T := F_LazyMachine) (N := 13) hx hb hts (fun q hq => List.mem_cons_of_mem _ (i_LazyMachine q hq)) hown hK hP 0 rfl rfl 3 (by decide) (hts _ (List.mem_cons_of_mem _ m_2_10)) (fun _ h9 => h9) rfl d_LazyMachine_stepLeft_31 ?_
    refine lv_iload_n hx hb d_LazyMachine_stepLeft_34 rfl (lv_at hl 1 rfl) ?_
    refine lv_iconst (v := 1) hx hb d_LazyMachine_stepLeft_35 (by decide) ?_
    refine lm_vi (b := ad 19) (As := [.int x1, .int 1]) (rest := [.ref (ad 0)]) (wr := (ma_W cA ad (ss, sp, fo, ba, no, en, vs, vf, vg)) ++ (hp_W cA (fun k => ad (k + 1)) SM) ++ (pl_W cA (fun k => ad (k + 8)) u26) ++ (tm_W cA (fun k => ad (k + 12)) XM)) ⟨hx, hb, hml, hown, hts⟩ hK hP hD hS hA [19, 20, 21, 22, 23, 24, 25] [0, 1, 2, 3, 4, 5, 6, 7, 8, 9, 10, 11, 12, 13, 14, 15, 16, 17, 18] rfl rfl (by decide) (by decide) (by decide) (c_Term_part l dC dI cA (fun k => ad (k + 19)) _ YM x1 1 (by exact nd_ix hx1 (w := 1) (by decide))) (cwV 2 hts (lm_gV m_8_18 m_8_19 m_8_20 m_0_4 m_8_21) rfl rfl rfl (by decide +kernel) ⟨Nat.le_of_ble_eq_true rfl, Nat.le_of_ble_eq_true rfl⟩) (va_recv (q0 := 19) hK hP rfl rfl) lm_bl_no (fun _ _ _ => trivial) hl.1 rfl rfl (Nat.le_of_ble_eq_true rfl) d_LazyMachine_stepLeft_36 ⟨Nat.le_of_ble_eq_true rfl, Nat.le_of_ble_eq_true rfl⟩ (fun r36 u36 H locs w36 hP hD hS => ?_)
    obtain ⟨e_r36, w36⟩ := w36
    replace w36 := w36.symm
    subst w36
    have hP : va_P (dC, dI) classes (lz_W cA ad ((ss, sp, fo, ba, no, en, vs, vf, vg), SM, u26, XM, YM)) H := hP
    have hD : va_D A (lz_W cA ad ((ss, sp, fo, ba, no, en, vs, vf, vg), SM, u26, XM, YM)) := hD
    refine lv_iload_n hx hb d_LazyMachine_stepLeft_39 rfl (lv_at hl 2 rfl) ?_
    refine lm_vv (b := ad 0) (As := [.int r36, .int x2]) (rest := []) (wr := ([] : va_W)) ⟨hx, hb, hml, hown, hts⟩ hK hP hD hS hA [0, 1, 2, 3, 4, 5, 6, 7, 8, 9, 10, 11, 12, 13, 14, 15, 16, 17, 18, 19, 20, 21, 22, 23, 24, 25] [] rfl rfl (by decide) (by decide) (by decide) (c_LazyMachine_enter l dC dI cA ad _ ((ss, sp, fo, ba, no, en, vs, vf, vg), SM, u26, XM, YM) r36 x2 ) (cwV 2 hts (lm_gV m_4_9 m_4_10 m_19_6 m_0_1 m_4_11) rfl rfl rfl (by decide +kernel) ⟨Nat.le_of_ble_eq_true rfl, Nat.le_of_ble_eq_true rfl⟩) (va_recv (q0 := 0) hK hP rfl rfl) lm_bl_no (fun _ _ _ => trivial) hl.1 rfl rfl (Nat.le_of_ble_eq_true rfl) d_LazyMachine_stepLeft_40 ⟨Nat.le_of_ble_eq_true rfl, Nat.le_of_ble_eq_true rfl⟩ (fun u40 H locs w40 hP hD hS => ?_)
    have w40 : u40 = ((ss, sp, fo, 0, r36, x2, vs, vf, vg), SM, u26, XM, YM) := w40
    subst w40
    have hP : va_P (dC, dI) classes (lz_W cA ad ((ss, sp, fo, 0, r36, x2, vs, vf, vg), SM, u26, XM, YM)) H := hP
    have hD : va_D A (lz_W cA ad ((ss, sp, fo, 0, r36, x2, vs, vf, vg), SM, u26, XM, YM)) := hD
    refine lv_iconst (v := 1) hx hb d_LazyMachine_stepLeft_43 (by decide) ?_
    refine lm_ri (v := 1) hx hb hr hlocks ((ss, sp, fo, 0, r36, x2, vs, vf, vg), SM, u26, XM, YM) ?_ hP hK hD hS d_LazyMachine_stepLeft_44
    subst w13 w26 e_r36; unfold ma_left; (first | rw [if_pos h4] | rw [if_neg h4]); exact ⟨rfl, rfl⟩
  · refine lv_iconst (v := 3) hx hb d_LazyMachine_stepLeft_7 (by decide) ?_
    refine lm_ri (v := 3) hx hb hr hlocks ((ss, sp, fo, ba, no, en, vs, vf, vg), SM, PM, XM, YM) ?_ hP hK hD hS d_LazyMachine_stepLeft_8
    unfold ma_left; (first | rw [if_pos h4] | rw [if_neg h4]); exact ⟨rfl, rfl⟩
set_option maxHeartbeats 4000000 in
set_option maxRecDepth 100000 in
theorem c_LazyMachine_reckon (l : Launch) (dC : Nat → ClassId) (dI : Nat → Nat → Nat) (cA : ClassId)   (sz : Nat)  (y1 y2 y3 : Int32)  : Met l y_LazyMachine_reckon w_LazyMachine_reckon ({ frames := 0, cells := 0, slots := 0, locals := 0 } : Room) (va_Pc [.int y1, .int y2, .int y3] (lm_pre (dC, dI) classes [(cA, .int)] (([] : va_W)) sz lm_no)) (va_Qi (fun (r : Int32) (u : Unit) => r = ma_reckon y1 y2 y3 ∧ u = ()) (fun u => lm_at (dC, dI) classes [(cA, .int)] (va_A (([] : va_W)) sz) (([] : va_W))) (va_A (([] : va_W)) sz)) 0 0 (va_A (([] : va_W)) sz) := by
  refine lm_met (fun A => va_Qi (fun (r : Int32) (u : Unit) => r = ma_reckon y1 y2 y3 ∧ u = ()) (fun u => lm_at (dC, dI) classes [(cA, .int)] A (([] : va_W))) A) (by decide) rfl (Nat.le_of_ble_eq_true rfl) ?_
  intro p e s m below meth c A hx hb hr hts hown hlocks hname hml hK hP hD hA hE hsz hAe hS ls hl
  replace hl : lv_has ls 3 [(0, .int y1), (1, .int y2), (2, .int y3)] := hl
  clear hAe hsz
  refine lv_iload_n hx hb d_LazyMachine_reckon_0 rfl (lv_at hl 0 rfl) ?_
  by_cases h1_4 : y1 = 4
  · refine lv_tableIn (tgt := 28) hx hb d_LazyMachine_reckon_1 (by rw [h1_4]; decide) (by rw [h1_4]; decide) (by rw [h1_4]; rfl) rfl ?_
    refine lv_iload_n hx hb d_LazyMachine_reckon_28 rfl (lv_at hl 1 rfl) ?_
    refine lv_iload_n hx hb d_LazyMachine_reckon_29 rfl (lv_at hl 2 rfl) ?_
    refine lv_iadd hx hb d_LazyMachine_reckon_30 ?_
    refine lm_ri (v := (y2 + y3)) hx hb hr hlocks () ?_ hP hK hD hS d_LazyMachine_reckon_31
    unfold ma_reckon; (first | rw [if_pos h1_4] | rw [if_neg h1_4]); exact ⟨rfl, rfl⟩
  by_cases h1_5 : y1 = 5
  · refine lv_tableIn (tgt := 32) hx hb d_LazyMachine_reckon_1 (by rw [h1_5]; decide) (by rw [h1_5]; decide) (by rw [h1_5]; rfl) rfl ?_
    refine lv_iload_n hx hb d_LazyMachine_reckon_32 rfl (lv_at hl 1 rfl) ?_
    refine lv_iload_n hx hb d_LazyMachine_reckon_33 rfl (lv_at hl 2 rfl) ?_
    refine lv_isub hx hb d_LazyMachine_reckon_34 ?_
    refine lm_ri (v := (y2 - y3)) hx hb hr hlocks () ?_ hP hK hD hS d_LazyMachine_reckon_35
    unfold ma_reckon; (first | rw [if_pos h1_4] | rw [if_neg h1_4]); (first | rw [if_pos h1_5] | rw [if_neg h1_5]); exact ⟨rfl, rfl⟩
  by_cases h1_6 : y1 = 6
  · refine lv_tableIn (tgt := 36) hx hb d_LazyMachine_reckon_1 (by rw [h1_6]; decide) (by rw [h1_6]; decide) (by rw [h1_6]; rfl) rfl ?_
    refine lv_iload_n hx hb d_LazyMachine_reckon_36 rfl (lv_at hl 1 rfl) ?_
    refine lv_iload_n hx hb d_LazyMachine_reckon_37 rfl (lv_at hl 2 rfl) ?_
    refine lv_imul hx hb d_LazyMachine_reckon_38 ?_
    refine lm_ri (v := (y2 * y3)) hx hb hr hlocks () ?_ hP hK hD hS d_LazyMachine_reckon_39
    unfold ma_reckon; (first | rw [if_pos h1_4] | rw [if_neg h1_4]); (first | rw [if_pos h1_5] | rw [if_neg h1_5]); (first | rw [if_pos h1_6] | rw [if_neg h1_6]); exact ⟨rfl, rfl⟩
  have qh1_4 := lv_neT (a := 4) h1_4 (by decide)
  have qh1_5 := lv_neT (a := 5) h1_5 (by decide)
  have qh1_6 := lv_neT (a := 6) h1_6 (by decide)
  refine lv_tableOut (tgt := 40) hx hb d_LazyMachine_reckon_1 (by omega) rfl ?_
  refine lv_iload_n hx hb d_LazyMachine_reckon_40 rfl (lv_at hl 1 rfl) ?_
  refine lv_iload_n hx hb d_LazyMachine_reckon_41 rfl (lv_at hl 2 rfl) ?_
  refine lv_icmp_ge hx hb d_LazyMachine_reckon_42 rfl (fun h42 => ?_) (fun h42 => ?_)
  · refine lv_iconst (v := 0) hx hb d_LazyMachine_reckon_49 (by decide) ?_
    refine lm_ri (v := 0) hx hb hr hlocks () ?_ hP hK hD hS d_LazyMachine_reckon_50
    unfold ma_reckon; (first | rw [if_pos h1_4] | rw [if_neg h1_4]); (first | rw [if_pos h1_5] | rw [if_neg h1_5]); (first | rw [if_pos h1_6] | rw [if_neg h1_6]); (first | rw [if_pos h42] | rw [if_neg h42]); exact ⟨rfl, rfl⟩
  · refine lv_iconst (v := 1) hx hb d_LazyMachine_reckon_45 (by decide) ?_
    refine lv_goto hx hb d_LazyMachine_reckon_46 rfl ?_
    refine lm_ri (v := 1) hx hb hr hlocks () ?_ hP hK hD hS d_LazyMachine_reckon_50
    unfold ma_reckon; (first | rw [if_pos h1_4] | rw [if_neg h1_4]); (first | rw [if_pos h1_5] | rw [if_neg h1_5]); (first | rw [if_pos h1_6] | rw [if_neg h1_6]); (first | rw [if_pos h42] | rw [if_neg h42]); exact ⟨rfl, rfl⟩
set_option maxHeartbeats 4000000 in
set_option maxRecDepth 100000 in
theorem c_LazyMachine_stepRight (l : Launch) (dC : Nat → ClassId) (dI : Nat → Nat → Nat) (cA : ClassId)  (ad : Nat → Nat) (sz : Nat) (M : ZMS) (x1 x2 : Int32) (hx1 : vp_in x1 200) : Met l y_LazyMachine_stepRight w_LazyMachine_stepRight ({ frames := 1, cells := 0, slots := 0, locals := 23 } : Room) (va_Pc [.ref (ad 0), .int x1, .int x2] (lm_pre (dC, dI) classes [(cA, .int)] (lz_W cA ad M) sz lm_no)) (va_Qi (fun (r : Int32) (u : ZMS) => r = (ma_right M x1 x2).1 ∧ u = (ma_right M x1 x2).2) (fun u => lm_at (dC, dI) classes [(cA, .int)] (va_A (lz_W cA ad M) sz) (lz_W cA ad u)) (va_A (lz_W cA ad M) sz)) 0 0 (va_A (lz_W cA ad M) sz) := by
  obtain ⟨⟨ss, sp, fo, ba, no, en, vs, vf, vg⟩, SM, PM, XM, YM⟩ := M
  refine lm_met (fun A => va_Qi (fun (r : Int32) (u : ZMS) => r = (ma_right ((ss, sp, fo, ba, no, en, vs, vf, vg), SM, PM, XM, YM) x1 x2).1 ∧ u = (ma_right ((ss, sp, fo, ba, no, en, vs, vf, vg), SM, PM, XM, YM) x1 x2).2) (fun u => lm_at (dC, dI) classes [(cA, .int)] A (lz_W cA ad u)) A) (by decide) rfl (Nat.le_of_ble_eq_true rfl) ?_
  intro p e s m below meth c A hx hb hr hts hown hlocks hname hml hK hP hD hA hE hsz hAe hS ls hl
  replace hl : lv_has ls 3 [(0, .ref (ad 0)), (1, .int x1), (2, .int x2)] := hl
  clear hAe hsz
  refine lv_aload_n hx hb d_LazyMachine_stepRight_0 rfl (lv_at hl 0 rfl) ?_
  refine va_get (D := (dC, dI)) (ci := 0) (v := .int vs) (C := R_LazyMachine) (T := F_LazyMachine) (N := 13) hx hb hts (fun q hq => List.mem_cons_of_mem _ (i_LazyMachine q hq)) hown hK hP 0 rfl rfl 10 (by decide) (hts _ (List.mem_cons_of_mem _ m_2_17)) (fun _ h9 => h9) rfl d_LazyMachine_stepRight_1 ?_
  refine lv_if_eq hx hb d_LazyMachine_stepRight_4 rfl (fun h4 => ?_) (fun h4 => ?_)
  · refine lv_aload_n hx hb d_LazyMachine_stepRight_9 rfl (lv_at hl 0 rfl) ?_
    refine va_get (D := (dC, dI)) (ci := 0) (v := .ref (ad 8)) (C := R_LazyMachine) (T := F_LazyMachine) (N := 13) hx hb hts (fun q hq => List.mem_cons_of_mem _ (i_LazyMachine q hq)) hown hK hP 0 rfl rfl 1 (by decide) (hts _ (List.mem_cons_of_mem _ m_2_8)) (fun _ h9 => h9) rfl d_LazyMachine_stepRight_10 ?_
    refine lm_vv (b := ad 8) (As := []) (rest := []) (wr := (ma_W cA ad (ss, sp, fo, ba, no, en, vs, vf, vg)) ++ (hp_W cA (fun k => ad (k + 1)) SM) ++ (tm_W cA (fun k => ad (k + 12)) XM) ++ (tm_W cA (fun k => ad (k + 19)) YM)) ⟨hx, hb, hml, hown, hts⟩ hK hP hD hS hA [8, 9, 10, 11] [0, 1, 2, 3, 4, 5, 6, 7, 12, 13, 14, 15, 16, 17, 18, 19, 20, 21, 22, 23, 24, 25] rfl rfl (by decide) (by decide) (by decide) (c_Pile_drop l dC dI cA (fun k => ad (k + 8)) _ PM  ) (cwV 0 hts (lm_gV m_7_20 m_7_21 m_7_22 m_0_3 m_7_23) rfl rfl rfl (by decide +kernel) ⟨Nat.le_of_ble_eq_true rfl, Nat.le_of_ble_eq_true rfl⟩) (va_recv (q0 := 8) hK hP rfl rfl) lm_bl_no (fun _ _ _ => trivial) hl.1 rfl rfl (Nat.le_of_ble_eq_true rfl) d_LazyMachine_stepRight_13 ⟨Nat.le_of_ble_eq_true rfl, Nat.le_of_ble_eq_true rfl⟩ (fun u13 H locs w13 hP hD hS => ?_)
    have hP : va_P (dC, dI) classes (lz_W cA ad ((ss, sp, fo, ba, no, en, vs, vf, vg), SM, u13, XM, YM)) H := hP.sub [0, 1, 2, 3, 4, 5, 6, 7, 22, 23, 24, 25, 8, 9, 10, 11, 12, 13, 14, 15, 16, 17, 18, 19, 20, 21] rfl
    have hD : va_D A (lz_W cA ad ((ss, sp, fo, ba, no, en, vs, vf, vg), SM, u13, XM, YM)) := hD.sub [0, 1, 2, 3, 4, 5, 6, 7, 22, 23, 24, 25, 8, 9, 10, 11, 12, 13, 14, 15, 16, 17, 18, 19, 20, 21] (by decide) rfl
    refine lv_aload_n hx hb d_LazyMachine_stepRight_16 rfl (lv_at hl 0 rfl) ?_
    refine lv_iconst (v := 0) hx hb d_LazyMachine_stepRight_17 (by decide) ?_
    refine lv_aload_n hx hb d_LazyMachine_stepRight_18 rfl (lv_at hl 0 rfl) ?_
    refine va_get (D := (dC, dI)) (ci := 0) (v := .ref (ad 19)) (C := R_LazyMachine) (T := F_LazyMachine) (N := 13) hx hb hts (fun q hq => List.mem_cons_of_mem _ (i_LazyMachine q hq)) hown hK hP 0 rfl rfl 3 (by decide) (hts _ (List.mem_cons_of_mem _ m_2_10)) (fun _ h9 => h9) rfl d_LazyMachine_stepRight_19 ?_
    refine lv_iload_n hx hb d_LazyMachine_stepRight_22 rfl (lv_at hl 1 rfl) ?_
    refine lm_vi (b := ad 19) (As := [.int x1]) (rest := [.int 0, .ref (ad 0)]) (wr := (ma_W cA ad (ss, sp, fo, ba, no, en, vs, vf, vg)) ++ (hp_W cA (fun k => ad (k + 1)) SM) ++ (pl_W cA (fun k => ad (k + 8)) u13) ++ (tm_W cA (fun k => ad (k + 12)) XM)) ⟨hx, hb, hml, hown, hts⟩ hK hP hD hS hA [19, 20, 21, 22, 23, 24, 25] [0, 1, 2, 3, 4, 5, 6, 7, 8, 9, 10, 11, 12, 13, 14, 15, 16, 17, 18] rfl rfl (by decide) (by decide) (by decide) (c_Term_sort l dC dI cA (fun k => ad (k + 19)) _ YM x1 (by exact hx1)) (cwV 1 hts (lm_gV m_10_0 m_10_1 m_10_2 m_0_4 m_10_3) rfl rfl rfl (by decide +kernel) ⟨Nat.le_of_ble_eq_true rfl, Nat.le_of_ble_eq_true rfl⟩) (va_recv (q0 := 19) hK hP rfl rfl) lm_bl_no (fun _ _ _ => trivial) hl.1 rfl rfl (Nat.le_of_ble_eq_true rfl) d_LazyMachine_stepRight_23 ⟨Nat.le_of_ble_eq_true rfl, Nat.le_of_ble_eq_true rfl⟩ (fun r23 u23 H locs w23 hP hD hS => ?_)
    obtain ⟨e_r23, w23⟩ := w23
    replace e_r23 := e_r23.symm
    subst e_r23
    replace w23 := w23.symm
    subst w23
    have hP : va_P (dC, dI) classes (lz_W cA ad ((ss, sp, fo, ba, no, en, vs, vf, vg), SM, u13, XM, YM)) H := hP
    have hD : va_D A (lz_W cA ad ((ss, sp, fo, ba, no, en, vs, vf, vg), SM, u13, XM, YM)) := hD
    refine lv_iload_n hx hb d_LazyMachine_stepRight_26 rfl (lv_at hl 2 rfl) ?_
    refine lv_aload_n hx hb d_LazyMachine_stepRight_27 rfl (lv_at hl 0 rfl) ?_
    refine va_get (D := (dC, dI)) (ci := 0) (v := .int vf) (C := R_LazyMachine) (T := F_LazyMachine) (N := 13) hx hb hts (fun q hq => List.mem_cons_of_mem _ (i_LazyMachine q hq)) hown hK hP 0 rfl rfl 11 (by decide) (hts _ (List.mem_cons_of_mem _ m_2_18)) (fun _ h9 => h9) rfl d_LazyMachine_stepRight_28 ?_
    refine lm_si (As := [.int (t_so YM x1.toNatClampNeg), .int x2, .int vf]) (rest := [.int 0, .ref (ad 0)]) (wr := (ma_W cA ad (ss, sp, fo, ba, no, en, vs, vf, vg)) ++ (hp_W cA (fun k => ad (k + 1)) SM) ++ (pl_W cA (fun k => ad (k + 8)) u13) ++ (tm_W cA (fun k => ad (k + 12)) XM) ++ (tm_W cA (fun k => ad (k + 19)) YM)) ⟨hx, hb, hml, hown, hts⟩ hK hP hD hS hA [] [0, 1, 2, 3, 4, 5, 6, 7, 8, 9, 10, 11, 12, 13, 14, 15, 16, 17, 18, 19, 20, 21, 22, 23, 24, 25] rfl rfl (by decide) (by decide) (by decide) (c_LazyMachine_reckon l dC dI cA  _  (t_so YM x1.toNatClampNeg) x2 vf ) (cwS 3 hts (lm_gS m_10_4 m_10_5 m_0_1 m_10_6) rfl rfl rfl (by decide +kernel) ⟨Nat.le_of_ble_eq_true rfl, Nat.le_of_ble_eq_true rfl⟩) lm_bl_no (fun _ _ _ => trivial) hl.1 rfl rfl (Nat.le_of_ble_eq_true rfl) d_LazyMachine_stepRight_31 ⟨Nat.le_of_ble_eq_true rfl, Nat.le_of_ble_eq_true rfl⟩ (fun r31 u31 H locs w31 hP hD hS => ?_)
    obtain ⟨e_r31, w31⟩ := w31
    have hP : va_P (dC, dI) classes (lz_W cA ad ((ss, sp, fo, ba, no, en, vs, vf, vg), SM, u13, XM, YM)) H := hP
    have hD : va_D A (lz_W cA ad ((ss, sp, fo, ba, no, en, vs, vf, vg), SM, u13, XM, YM)) := hD
    refine lv_iconst (v := -1) hx hb d_LazyMachine_stepRight_34 (by decide) ?_
    refine lm_vi (b := ad 0) (As := [.int 0, .int r31, .int (-1)]) (rest := []) (wr := ([] : va_W)) ⟨hx, hb, hml, hown, hts⟩ hK hP hD hS hA [0, 1, 2, 3, 4, 5, 6, 7, 8, 9, 10, 11, 12, 13, 14, 15, 16, 17, 18, 19, 20, 21, 22, 23, 24, 25] [] rfl rfl (by decide) (by decide) (by decide) (c_LazyMachine_backWith l dC dI cA ad _ ((ss, sp, fo, ba, no, en, vs, vf, vg), SM, u13, XM, YM) 0 r31 (-1) ) (cwV 3 hts (lm_gV m_10_7 m_10_8 m_19_14 m_0_1 m_10_9) rfl rfl rfl (by decide +kernel) ⟨Nat.le_of_ble_eq_true rfl, Nat.le_of_ble_eq_true rfl⟩) (va_recv (q0 := 0) hK hP rfl rfl) lm_bl_no (fun _ _ _ => trivial) hl.1 rfl rfl (Nat.le_of_ble_eq_true rfl) d_LazyMachine_stepRight_35 ⟨Nat.le_of_ble_eq_true rfl, Nat.le_of_ble_eq_true rfl⟩ (fun r35 u35 H locs w35 hP hD hS => ?_)
    obtain ⟨e_r35, w35⟩ := w35
    replace e_r35 := e_r35.symm
    subst e_r35
    have w35 : u35 = ((ss, sp, fo, 1, no, en, 0, r31, (-1)), SM, u13, XM, YM) := w35
    subst w35
    have hP : va_P (dC, dI) classes (lz_W cA ad ((ss, sp, fo, 1, no, en, 0, r31, (-1)), SM, u13, XM, YM)) H := hP
    have hD : va_D A (lz_W cA ad ((ss, sp, fo, 1, no, en, 0, r31, (-1)), SM, u13, XM, YM)) := hD
    refine lm_ri (v := 1) hx hb hr hlocks ((ss, sp, fo, 1, no, en, 0, r31, (-1)), SM, u13, XM, YM) ?_ hP hK hD hS d_LazyMachine_stepRight_38
    subst w13 e_r31; unfold ma_right; (first | rw [if_pos h4] | rw [if_neg h4]); exact ⟨rfl, rfl⟩
  · refine lv_iconst (v := 3) hx hb d_LazyMachine_stepRight_7 (by decide) ?_
    refine lm_ri (v := 3) hx hb hr hlocks ((ss, sp, fo, ba, no, en, vs, vf, vg), SM, PM, XM, YM) ?_ hP hK hD hS d_LazyMachine_stepRight_8
    unfold ma_right; (first | rw [if_pos h4] | rw [if_neg h4]); exact ⟨rfl, rfl⟩
set_option maxHeartbeats 4000000 in
set_option maxRecDepth 100000 in
theorem c_LazyMachine_stepTest (l : Launch) (dC : Nat → ClassId) (dI : Nat → Nat → Nat) (cA : ClassId)  (ad : Nat → Nat) (sz : Nat) (M : ZMS) (x1 x2 : Int32) (hx1 : vp_in x1 200) : Met l y_LazyMachine_stepTest w_LazyMachine_stepTest ({ frames := 1, cells := 0, slots := 0, locals := 22 } : Room) (va_Pc [.ref (ad 0), .int x1, .int x2] (lm_pre (dC, dI) classes [(cA, .int)] (lz_W cA ad M) sz lm_no)) (va_Qi (fun (r : Int32) (u : ZMS) => r = (ma_test M x1 x2).1 ∧ u = (ma_test M x1 x2).2) (fun u => lm_at (dC, dI) classes [(cA, .int)] (va_A (lz_W cA ad M) sz) (lz_W cA ad u)) (va_A (lz_W cA ad M) sz)) 0 0 (va_A (lz_W cA ad M) sz) := by
  obtain ⟨⟨ss, sp, fo, ba, no, en, vs, vf, vg⟩, SM, PM, XM, YM⟩ := M
  refine lm_met (fun A => va_Qi (fun (r : Int32) (u : ZMS) => r = (ma_test ((ss, sp, fo, ba, no, en, vs, vf, vg), SM, PM, XM, YM) x1 x2).1 ∧ u = (ma_test ((ss, sp, fo, ba, no, en, vs, vf, vg), SM, PM, XM, YM) x1 x2).2) (fun u => lm_at (dC, dI) classes [(cA, .int)] A (lz_W cA ad u)) A) (by decide) rfl (Nat.le_of_ble_eq_true rfl) ?_
  intro p e s m below meth c A hx hb hr hts hown hlocks hname hml hK hP hD hA hE hsz hAe hS ls hl
  replace hl : lv_has ls 3 [(0, .ref (ad 0)), (1, .int x1), (2, .int x2)] := hl
  clear hAe hsz
  refine lv_aload_n hx hb d_LazyMachine_stepTest_0 rfl (lv_at hl 0 rfl) ?_
  refine va_get (D := (dC, dI)) (ci := 0) (v := .int vs) (C := R_LazyMachine) (T := F_LazyMachine) (N := 13) hx hb hts (fun q hq => List.mem_cons_of_mem _ (i_LazyMachine q hq)) hown hK hP 0 rfl rfl 10 (by decide) (hts _ (List.mem_cons_of_mem _ m_2_17)) (fun _ h9 => h9) rfl d_LazyMachine_stepTest_1 ?_
  refine lv_if_eq hx hb d_LazyMachine_stepTest_4 rfl (fun h4 => ?_) (fun h4 => ?_)
  · refine lv_aload_n hx hb d_LazyMachine_stepTest_9 rfl (lv_at hl 0 rfl) ?_
    refine va_get (D := (dC, dI)) (ci := 0) (v := .ref (ad 8)) (C := R_LazyMachine) (T := F_LazyMachine) (N := 13) hx hb hts (fun q hq => List.mem_cons_of_mem _ (i_LazyMachine q hq)) hown hK hP 0 rfl rfl 1 (by decide) (hts _ (List.mem_cons_of_mem _ m_2_8)) (fun _ h9 => h9) rfl d_LazyMachine_stepTest_10 ?_
    refine lm_vv (b := ad 8) (As := []) (rest := []) (wr := (ma_W cA ad (ss, sp, fo, ba, no, en, vs, vf, vg)) ++ (hp_W cA (fun k => ad (k + 1)) SM) ++ (tm_W cA (fun k => ad (k + 12)) XM) ++ (tm_W cA (fun k => ad (k + 19)) YM)) ⟨hx, hb, hml, hown, hts⟩ hK hP hD hS hA [8, 9, 10, 11] [0, 1, 2, 3, 4, 5, 6, 7, 12, 13, 14, 15, 16, 17, 18, 19, 20, 21, 22, 23, 24, 25] rfl rfl (by decide) (by decide) (by decide) (c_Pile_drop l dC dI cA (fun k => ad (k + 8)) _ PM  ) (cwV 0 hts (lm_gV m_7_20 m_7_21 m_7_22 m_0_3 m_7_23) rfl rfl rfl (by decide +kernel) ⟨Nat.le_of_ble_eq_true rfl, Nat.le_of_ble_eq_true rfl⟩) (va_recv (q0 := 8) hK hP rfl rfl) lm_bl_no (fun _ _ _ => trivial) hl.1 rfl rfl (Nat.le_of_ble_eq_true rfl) d_LazyMachine_stepTest_13 ⟨Nat.le_of_ble_eq_true rfl, Nat.le_of_ble_eq_true rfl⟩ (fun u13 H locs w13 hP hD hS => ?_)
    have hP : va_P (dC, dI) classes (lz_W cA ad ((ss, sp, fo, ba, no, en, vs, vf, vg), SM, u13, XM, YM)) H := hP.sub [0, 1, 2, 3, 4, 5, 6, 7, 22, 23, 24, 25, 8, 9, 10, 11, 12, 13, 14, 15, 16, 17, 18, 19, 20, 21] rfl
    have hD : va_D A (lz_W cA ad ((ss, sp, fo, ba, no, en, vs, vf, vg), SM, u13, XM, YM)) := hD.sub [0, 1, 2, 3, 4, 5, 6, 7, 22, 23, 24, 25, 8, 9, 10, 11, 12, 13, 14, 15, 16, 17, 18, 19, 20, 21] (by decide) rfl
    refine lv_aload_n hx hb d_LazyMachine_stepTest_16 rfl (lv_at hl 0 rfl) ?_
    refine lv_aload_n hx hb d_LazyMachine_stepTest_17 rfl (lv_at hl 0 rfl) ?_
    refine va_get (D := (dC, dI)) (ci := 0) (v := .ref (ad 19)) (C := R_LazyMachine) (T := F_LazyMachine) (N := 13) hx hb hts (fun q hq => List.mem_cons_of_mem _ (i_LazyMachine q hq)) hown hK hP 0 rfl rfl 3 (by decide) (hts _ (List.mem_cons_of_mem _ m_2_10)) (fun _ h9 => h9) rfl d_LazyMachine_stepTest_18 ?_
    refine lv_iload_n hx hb d_LazyMachine_stepTest_21 rfl (lv_at hl 1 rfl) ?_
    refine lv_aload_n hx hb d_LazyMachine_stepTest_22 rfl (lv_at hl 0 rfl) ?_
    refine va_get (D := (dC, dI)) (ci := 0) (v := .int vf) (C := R_LazyMachine) (T := F_LazyMachine) (N := 13) hx hb hts (fun q hq => List.mem_cons_of_mem _ (i_LazyMachine q hq)) hown hK hP 0 rfl rfl 11 (by decide) (hts _ (List.mem_cons_of_mem _ m_2_18)) (fun _ h9 => h9) rfl d_LazyMachine_stepTest_23 ?_
    refine lv_if_ne hx hb d_LazyMachine_stepTest_26 rfl (fun h26 => ?_) (fun h26 => ?_)
    · refine lv_iconst (v := 2) hx hb d_LazyMachine_stepTest_33 (by decide) ?_
      refine lm_vi (b := ad 19) (As := [.int x1, .int 2]) (rest := [.ref (ad 0)]) (wr := (ma_W cA ad (ss, sp, fo, ba, no, en, vs, vf, vg)) ++ (hp_W cA (fun k => ad (k + 1)) SM) ++ (pl_W cA (fun k => ad (k + 8)) u13) ++ (tm_W cA (fun k => ad (k + 12)) XM)) ⟨hx, hb, hml, hown, hts⟩ hK hP hD hS hA [19, 20, 21, 22, 23, 24, 25] [0, 1, 2, 3, 4, 5, 6, 7, 8, 9, 10, 11, 12, 13, 14, 15, 16, 17, 18] rfl rfl (by decide) (by decide) (by decide) (c_Term_part l dC dI cA (fun k => ad (k + 19)) _ YM x1 2 (by first | exact nd_ix hx1 (w := 1) (by decide) | exact nd_ix hx1 (w := 2) (by decide))) (cwV 2 hts (lm_gV m_8_18 m_8_19 m_8_20 m_0_4 m_8_21) rfl rfl rfl (by decide +kernel) ⟨Nat.le_of_ble_eq_true rfl, Nat.le_of_ble_eq_true rfl⟩) (va_recv (q0 := 19) hK hP rfl rfl) lm_bl_no (fun _ _ _ => trivial) hl.1 rfl rfl (Nat.le_of_ble_eq_true rfl) d_LazyMachine_stepTest_34 ⟨Nat.le_of_ble_eq_true rfl, Nat.le_of_ble_eq_true rfl⟩ (fun r34 u34 H locs w34 hP hD hS => ?_)
      obtain ⟨e_r34, w34⟩ := w34
      replace w34 := w34.symm
      subst w34
      have hP : va_P (dC, dI) classes (lz_W cA ad ((ss, sp, fo, ba, no, en, vs, vf, vg), SM, u13, XM, YM)) H := hP
      have hD : va_D A (lz_W cA ad ((ss, sp, fo, ba, no, en, vs, vf, vg), SM, u13, XM, YM)) := hD
      refine lv_iload_n hx hb d_LazyMachine_stepTest_37 rfl (lv_at hl 2 rfl) ?_
      refine lm_vv (b := ad 0) (As := [.int r34, .int x2]) (rest := []) (wr := ([] : va_W)) ⟨hx, hb, hml, hown, hts⟩ hK hP hD hS hA [0, 1, 2, 3, 4, 5, 6, 7, 8, 9, 10, 11, 12, 13, 14, 15, 16, 17, 18, 19, 20, 21, 22, 23, 24, 25] [] rfl rfl (by decide) (by decide) (by decide) (c_LazyMachine_enter l dC dI cA ad _ ((ss, sp, fo, ba, no, en, vs, vf, vg), SM, u13, XM, YM) r34 x2 ) (cwV 2 hts (lm_gV m_4_9 m_4_10 m_19_6 m_0_1 m_4_11) rfl rfl rfl (by decide +kernel) ⟨Nat.le_of_ble_eq_true rfl, Nat.le_of_ble_eq_true rfl⟩) (va_recv (q0 := 0) hK hP rfl rfl) lm_bl_no (fun _ _ _ => trivial) hl.1 rfl rfl (Nat.le_of_ble_eq_true rfl) d_LazyMachine_stepTest_38 ⟨Nat.le_of_ble_eq_true rfl, Nat.le_of_ble_eq_true rfl⟩ (fun u38 H locs w38 hP hD hS => ?_)
      have w38 : u38 = ((ss, sp, fo, 0, r34, x2, vs, vf, vg), SM, u13, XM, YM) := w38
      subst w38
      have hP : va_P (dC, dI) classes (lz_W cA ad ((ss, sp, fo, 0, r34, x2, vs, vf, vg), SM, u13, XM, YM)) H := hP
      have hD : va_D A (lz_W cA ad ((ss, sp, fo, 0, r34, x2, vs, vf, vg), SM, u13, XM, YM)) := hD
      refine lv_iconst (v := 1) hx hb d_LazyMachine_stepTest_41 (by decide) ?_
      refine lm_ri (v := 1) hx hb hr hlocks ((ss, sp, fo, 0, r34, x2, vs, vf, vg), SM, u13, XM, YM) ?_ hP hK hD hS d_LazyMachine_stepTest_42
      subst w13 e_r34; unfold ma_test; (first | rw [if_pos h4] | rw [if_neg h4]); (first | rw [if_pos h26] | rw [if_neg h26]); exact ⟨rfl, rfl⟩
    · refine lv_iconst (v := 1) hx hb d_LazyMachine_stepTest_29 (by decide) ?_
      refine lv_goto hx hb d_LazyMachine_stepTest_30 rfl ?_
      refine lm_vi (b := ad 19) (As := [.int x1, .int 1]) (rest := [.ref (ad 0)]) (wr := (ma_W cA ad (ss, sp, fo, ba, no, en, vs, vf, vg)) ++ (hp_W cA (fun k => ad (k + 1)) SM) ++ (pl_W cA (fun k => ad (k + 8)) u13) ++ (tm_W cA (fun k => ad (k + 12)) XM)) ⟨hx, hb, hml, hown, hts⟩ hK hP hD hS hA [19, 20, 21, 22, 23, 24, 25] [0, 1, 2, 3, 4, 5, 6, 7, 8, 9, 10, 11, 12, 13, 14, 15, 16, 17, 18] rfl rfl (by decide) (by decide) (by decide) (c_Term_part l dC dI cA (fun k => ad (k + 19)) _ YM x1 1 (by first | exact nd_ix hx1 (w := 1) (by decide) | exact nd_ix hx1 (w := 2) (by decide))) (cwV 2 hts (lm_gV m_8_18 m_8_19 m_8_20 m_0_4 m_8_21) rfl rfl rfl (by decide +kernel) ⟨Nat.le_of_ble_eq_true rfl, Nat.le_of_ble_eq_true rfl⟩) (va_recv (q0 := 19) hK hP rfl rfl) lm_bl_no (fun _ _ _ => trivial) hl.1 rfl rfl (Nat.le_of_ble_eq_true rfl) d_LazyMachine_stepTest_34 ⟨Nat.le_of_ble_eq_true rfl, Nat.le_of_ble_eq_true rfl⟩ (fun r34 u34 H locs w34 hP hD hS => ?_)
      obtain ⟨e_r34, w34⟩ := w34
      replace w34 := w34.symm
      subst w34
      have hP : va_P (dC, dI) classes (lz_W cA ad ((ss, sp, fo, ba, no, en, vs, vf, vg), SM, u13, XM, YM)) H := hP
      have hD : va_D A (lz_W cA ad ((ss, sp, fo, ba, no, en, vs, vf, vg), SM, u13, XM, YM)) := hD
      refine lv_iload_n hx hb d_LazyMachine_stepTest_37 rfl (lv_at hl 2 rfl) ?_
      refine lm_vv (b := ad 0) (As := [.int r34, .int x2]) (rest := []) (wr := ([] : va_W)) ⟨hx, hb, hml, hown, hts⟩ hK hP hD hS hA [0, 1, 2, 3, 4, 5, 6, 7, 8, 9, 10, 11, 12, 13, 14, 15, 16, 17, 18, 19, 20, 21, 22, 23, 24, 25] [] rfl rfl (by decide) (by decide) (by decide) (c_LazyMachine_enter l dC dI cA ad _ ((ss, sp, fo, ba, no, en, vs, vf, vg), SM, u13, XM, YM) r34 x2 ) (cwV 2 hts (lm_gV m_4_9 m_4_10 m_19_6 m_0_1 m_4_11) rfl rfl rfl (by decide +kernel) ⟨Nat.le_of_ble_eq_true rfl, Nat.le_of_ble_eq_true rfl⟩) (va_recv (q0 := 0) hK hP rfl rfl) lm_bl_no (fun _ _ _ => trivial) hl.1 rfl rfl (Nat.le_of_ble_eq_true rfl) d_LazyMachine_stepTest_38 ⟨Nat.le_of_ble_eq_true rfl, Nat.le_of_ble_eq_true rfl⟩ (fun u38 H locs w38 hP hD hS => ?_)
      have w38 : u38 = ((ss, sp, fo, 0, r34, x2, vs, vf, vg), SM, u13, XM, YM) := w38
      subst w38
      have hP : va_P (dC, dI) classes (lz_W cA ad ((ss, sp, fo, 0, r34, x2, vs, vf, vg), SM, u13, XM, YM)) H := hP
      have hD : va_D A (lz_W cA ad ((ss, sp, fo, 0, r34, x2, vs, vf, vg), SM, u13, XM, YM)) := hD
      refine lv_iconst (v := 1) hx hb d_LazyMachine_stepTest_41 (by decide) ?_
      refine lm_ri (v := 1) hx hb hr hlocks ((ss, sp, fo, 0, r34, x2, vs, vf, vg), SM, u13, XM, YM) ?_ hP hK hD hS d_LazyMachine_stepTest_42
      subst w13 e_r34; unfold ma_test; (first | rw [if_pos h4] | rw [if_neg h4]); (first | rw [if_pos h26] | rw [if_neg h26]); exact ⟨rfl, rfl⟩
  · refine lv_iconst (v := 3) hx hb d_LazyMachine_stepTest_7 (by decide) ?_
    refine lm_ri (v := 3) hx hb hr hlocks ((ss, sp, fo, ba, no, en, vs, vf, vg), SM, PM, XM, YM) ?_ hP hK hD hS d_LazyMachine_stepTest_8
    unfold ma_test; (first | rw [if_pos h4] | rw [if_neg h4]); exact ⟨rfl, rfl⟩
set_option maxHeartbeats 4000000 in
set_option maxRecDepth 100000 in
theorem c_LazyMachine_stepPart (l : Launch) (dC : Nat → ClassId) (dI : Nat → Nat → Nat) (cA : ClassId)  (ad : Nat → Nat) (sz : Nat) (M : ZMS) (x : Int32) (hz : pl_ok (m_P M)) (hv : l_vs M = 2 → hp_c (l_vf M) ∧ hp_c (l_vg M)) : Met l y_LazyMachine_stepPart w_LazyMachine_stepPart ({ frames := 3, cells := 0, slots := 0, locals := 67 } : Room) (va_Pc [.ref (ad 0), .int x] (lm_pre (dC, dI) classes [(cA, .int)] (lz_W cA ad M) sz lm_no)) (va_Qi (fun (r : Int32) (u : ZMS) => r = (ma_part M x).1 ∧ u = (ma_part M x).2) (fun u => lm_at (dC, dI) classes [(cA, .int)] (va_A (lz_W cA ad M) sz) (lz_W cA ad u)) (va_A (lz_W cA ad M) sz)) 0 0 (va_A (lz_W cA ad M) sz) := by
  obtain ⟨⟨ss, sp, fo, ba, no, en, vs, vf, vg⟩, SM, PM, XM, YM⟩ := M
  refine lm_met (fun A => va_Qi (fun (r : Int32) (u : ZMS) => r = (ma_part ((ss, sp, fo, ba, no, en, vs, vf, vg), SM, PM, XM, YM) x).1 ∧ u = (ma_part ((ss, sp, fo, ba, no, en, vs, vf, vg), SM, PM, XM, YM) x).2) (fun u => lm_at (dC, dI) classes [(cA, .int)] A (lz_W cA ad u)) A) (by decide) rfl (Nat.le_of_ble_eq_true rfl) ?_
  intro p e s m below meth c A hx hb hr hts hown hlocks hname hml hK hP hD hA hE hsz hAe hS ls hl
  replace hl : lv_has ls 3 [(0, .ref (ad 0)), (1, .int x)] := hl
  clear hAe hsz
  refine lv_aload_n hx hb d_LazyMachine_stepPart_0 rfl (lv_at hl 0 rfl) ?_
  refine va_get (D := (dC, dI)) (ci := 0) (v := .int vs) (C := R_LazyMachine) (T := F_LazyMachine) (N := 13) hx hb hts (fun q hq => List.mem_cons_of_mem _ (i_LazyMachine q hq)) hown hK hP 0 rfl rfl 10 (by decide) (hts _ (List.mem_cons_of_mem _ m_2_17)) (fun _ h9 => h9) rfl d_LazyMachine_stepPart_1 ?_
  refine lv_iconst (v := 2) hx hb d_LazyMachine_stepPart_4 (by decide) ?_
  refine lv_icmp_eq hx hb d_LazyMachine_stepPart_5 rfl (fun h5 => ?_) (fun h5 => ?_)
  · refine lv_iload_n hx hb d_LazyMachine_stepPart_10 rfl (lv_at hl 1 rfl) ?_
    refine lv_if_ne hx hb d_LazyMachine_stepPart_11 rfl (fun h11 => ?_) (fun h11 => ?_)
    · refine lv_aload_n hx hb d_LazyMachine_stepPart_21 rfl (lv_at hl 0 rfl) ?_
      refine va_get (D := (dC, dI)) (ci := 0) (v := .int vg) (C := R_LazyMachine) (T := F_LazyMachine) (N := 13) hx hb hts (fun q hq => List.mem_cons_of_mem _ (i_LazyMachine q hq)) hown hK hP 0 rfl rfl 12 (by decide) (hts _ (List.mem_cons_of_mem _ m_2_19)) (fun _ h9 => h9) rfl d_LazyMachine_stepPart_22 ?_
      refine lv_istore_n (lv' := [(2, .int vg), (0, .ref (ad 0)), (1, .int x)]) hx hb d_LazyMachine_stepPart_25 rfl hl (by decide) rfl (fun ls hl => ?_)
      refine lv_aload_n hx hb d_LazyMachine_stepPart_26 rfl (lv_at hl 1 rfl) ?_
      refine va_get (D := (dC, dI)) (ci := 0) (v := .ref (ad 1)) (C := R_LazyMachine) (T := F_LazyMachine) (N := 13) hx hb hts (fun q hq => List.mem_cons_of_mem _ (i_LazyMachine q hq)) hown hK hP 0 rfl rfl 0 (by decide) (hts _ (List.mem_cons_of_mem _ m_2_7)) (fun _ h9 => h9) rfl d_LazyMachine_stepPart_27 ?_
      refine lv_iload_n hx hb d_LazyMachine_stepPart_30 rfl (lv_at hl 0 rfl) ?_
      refine lm_vi (b := ad 1) (As := [.int vg]) (rest := []) (wr := (ma_W cA ad (ss, sp, fo, ba, no, en, vs, vf, vg)) ++ (pl_W cA (fun k => ad (k + 8)) PM) ++ (tm_W cA (fun k => ad (k + 12)) XM) ++ (tm_W cA (fun k => ad (k + 19)) YM)) ⟨hx, hb, hml, hown, hts⟩ hK hP hD hS hA [1, 2, 3, 4, 5, 6, 7] [0, 8, 9, 10, 11, 12, 13, 14, 15, 16, 17, 18, 19, 20, 21, 22, 23, 24, 25] rfl rfl (by decide) (by decide) (by decide) (c_Heap_state l dC dI cA (fun k => ad (k + 1)) _ SM vg (by first | exact (hv h5).1 | exact (hv h5).2)) (cwV 1 hts (lm_gV m_10_16 m_10_17 m_10_18 m_0_2 m_10_19) rfl rfl rfl (by decide +kernel) ⟨Nat.le_of_ble_eq_true rfl, Nat.le_of_ble_eq_true rfl⟩) (va_recv (q0 := 1) hK hP rfl rfl) lm_bl_no (fun _ _ _ => trivial) hl.1 rfl rfl (Nat.le_of_ble_eq_true rfl) d_LazyMachine_stepPart_31 ⟨Nat.le_of_ble_eq_true rfl, Nat.le_of_ble_eq_true rfl⟩ (fun r31 u31 H locs w31 hP hD hS => ?_)
      obtain ⟨e_r31, w31⟩ := w31
      replace w31 := w31.symm
      subst w31
      have hP : va_P (dC, dI) classes (lz_W cA ad ((ss, sp, fo, ba, no, en, vs, vf, vg), SM, PM, XM, YM)) H := hP.sub [0, 19, 20, 21, 22, 23, 24, 25, 1, 2, 3, 4, 5, 6, 7, 8, 9, 10, 11, 12, 13, 14, 15, 16, 17, 18] rfl
      have hD : va_D A (lz_W cA ad ((ss, sp, fo, ba, no, en, vs, vf, vg), SM, PM, XM, YM)) := hD.sub [0, 19, 20, 21, 22, 23, 24, 25, 1, 2, 3, 4, 5, 6, 7, 8, 9, 10, 11, 12, 13, 14, 15, 16, 17, 18] (by decide) rfl
      refine lv_iconst (v := 4) hx hb d_LazyMachine_stepPart_34 (by decide) ?_
      refine lv_icmp_ne hx hb d_LazyMachine_stepPart_35 rfl (fun h35 => ?_) (fun h35 => ?_)
      · refine lv_aload_n hx hb d_LazyMachine_stepPart_40 rfl (lv_at hl 1 rfl) ?_
        refine va_get (D := (dC, dI)) (ci := 0) (v := .ref (ad 8)) (C := R_LazyMachine) (T := F_LazyMachine) (N := 13) hx hb hts (fun q hq => List.mem_cons_of_mem _ (i_LazyMachine q hq)) hown hK hP 0 rfl rfl 1 (by decide) (hts _ (List.mem_cons_of_mem _ m_2_8)) (fun _ h9 => h9) rfl d_LazyMachine_stepPart_41 ?_
        refine lm_vv (b := ad 8) (As := []) (rest := []) (wr := (ma_W cA ad (ss, sp, fo, ba, no, en, vs, vf, vg)) ++ (hp_W cA (fun k => ad (k + 1)) SM) ++ (tm_W cA (fun k => ad (k + 12)) XM) ++ (tm_W cA (fun k => ad (k + 19)) YM)) ⟨hx, hb, hml, hown, hts⟩ hK hP hD hS hA [8, 9, 10, 11] [0, 1, 2, 3, 4, 5, 6, 7, 12, 13, 14, 15, 16, 17, 18, 19, 20, 21, 22, 23, 24, 25] rfl rfl (by decide) (by decide) (by decide) (c_Pile_drop l dC dI cA (fun k => ad (k + 8)) _ PM  ) (cwV 0 hts (lm_gV m_7_20 m_7_21 m_7_22 m_0_3 m_7_23) rfl rfl rfl (by decide +kernel) ⟨Nat.le_of_ble_eq_true rfl, Nat.le_of_ble_eq_true rfl⟩) (va_recv (q0 := 8) hK hP rfl rfl) lm_bl_no (fun _ _ _ => trivial) hl.1 rfl rfl (Nat.le_of_ble_eq_true rfl) d_LazyMachine_stepPart_44 ⟨Nat.le_of_ble_eq_true rfl, Nat.le_of_ble_eq_true rfl⟩ (fun u44 H locs w44 hP hD hS => ?_)
        have hP : va_P (dC, dI) classes (lz_W cA ad ((ss, sp, fo, ba, no, en, vs, vf, vg), SM, u44, XM, YM)) H := hP.sub [0, 1, 2, 3, 4, 5, 6, 7, 22, 23, 24, 25, 8, 9, 10, 11, 12, 13, 14, 15, 16, 17, 18, 19, 20, 21] rfl
        have hD : va_D A (lz_W cA ad ((ss, sp, fo, ba, no, en, vs, vf, vg), SM, u44, XM, YM)) := hD.sub [0, 1, 2, 3, 4, 5, 6, 7, 22, 23, 24, 25, 8, 9, 10, 11, 12, 13, 14, 15, 16, 17, 18, 19, 20, 21] (by decide) rfl
        refine lv_aload_n hx hb d_LazyMachine_stepPart_47 rfl (lv_at hl 1 rfl) ?_
        refine lv_iload_n hx hb d_LazyMachine_stepPart_48 rfl (lv_at hl 0 rfl) ?_
        refine lm_vi (b := ad 0) (As := [.int vg]) (rest := []) (wr := ([] : va_W)) ⟨hx, hb, hml, hown, hts⟩ hK hP hD hS hA [0, 1, 2, 3, 4, 5, 6, 7, 8, 9, 10, 11, 12, 13, 14, 15, 16, 17, 18, 19, 20, 21, 22, 23, 24, 25] [] rfl rfl (by decide) (by decide) (by decide) (c_LazyMachine_ask l dC dI cA ad _ ((ss, sp, fo, ba, no, en, vs, vf, vg), SM, u44, XM, YM) vg (by first | exact (hv h5).1 | exact (hv h5).2) (by show pl_ok u44; rw [w44]; exact pl_ok_drop hz)) (cwV 1 hts (lm_gV m_10_20 m_10_21 m_19_17 m_0_1 m_10_22) rfl rfl rfl (by decide +kernel) ⟨Nat.le_of_ble_eq_true rfl, Nat.le_of_ble_eq_true rfl⟩) (va_recv (q0 := 0) hK hP rfl rfl) lm_bl_no (fun _ _ _ => trivial) hl.1 rfl rfl (Nat.le_of_ble_eq_true rfl) d_LazyMachine_stepPart_49 ⟨Nat.le_of_ble_eq_true rfl, Nat.le_of_ble_eq_true rfl⟩ (fun r49 u49 H locs w49 hP hD hS => ?_)
        obtain ⟨e_r49, w49⟩ := w49
        have hP : va_P (dC, dI) classes (lz_W cA ad u49) H := hP
        have hD : va_D A (lz_W cA ad u49) := hD
        refine lm_ri (v := r49) hx hb hr hlocks u49 ?_ hP hK hD hS d_LazyMachine_stepPart_52
        subst e_r31 w44 e_r49 w49; unfold ma_part; (first | rw [if_pos h5] | rw [if_neg h5]); (first | rw [if_pos h11] | rw [if_neg h11]); (first | rw [if_pos h35] | rw [if_neg h35]); exact ⟨rfl, rfl⟩
      · refine lv_iconst (v := 4) hx hb d_LazyMachine_stepPart_38 (by decide) ?_
        refine lm_ri (v := 4) hx hb hr hlocks ((ss, sp, fo, ba, no, en, vs, vf, vg), SM, PM, XM, YM) ?_ hP hK hD hS d_LazyMachine_stepPart_39
        subst e_r31; unfold ma_part; (first | rw [if_pos h5] | rw [if_neg h5]); (first | rw [if_pos h11] | rw [if_neg h11]); (first | rw [if_pos h35] | rw [if_neg h35]); exact ⟨rfl, rfl⟩
    · refine lv_aload_n hx hb d_LazyMachine_stepPart_14 rfl (lv_at hl 0 rfl) ?_
      refine va_get (D := (dC, dI)) (ci := 0) (v := .int vf) (C := R_LazyMachine) (T := F_LazyMachine) (N := 13) hx hb hts (fun q hq => List.mem_cons_of_mem _ (i_LazyMachine q hq)) hown hK hP 0 rfl rfl 11 (by decide) (hts _ (List.mem_cons_of_mem _ m_2_18)) (fun _ h9 => h9) rfl d_LazyMachine_stepPart_15 ?_
      refine lv_goto hx hb d_LazyMachine_stepPart_18 rfl ?_
      refine lv_istore_n (lv' := [(2, .int vf), (0, .ref (ad 0)), (1, .int x)]) hx hb d_LazyMachine_stepPart_25 rfl hl (by decide) rfl (fun ls hl => ?_)
      refine lv_aload_n hx hb d_LazyMachine_stepPart_26 rfl (lv_at hl 1 rfl) ?_
      refine va_get (D := (dC, dI)) (ci := 0) (v := .ref (ad 1)) (C := R_LazyMachine) (T := F_LazyMachine) (N := 13) hx hb hts (fun q hq => List.mem_cons_of_mem _ (i_LazyMachine q hq)) hown hK hP 0 rfl rfl 0 (by decide) (hts _ (List.mem_cons_of_mem _ m_2_7)) (fun _ h9 => h9) rfl d_LazyMachine_stepPart_27 ?_
      refine lv_iload_n hx hb d_LazyMachine_stepPart_30 rfl (lv_at hl 0 rfl) ?_
      refine lm_vi (b := ad 1) (As := [.int vf]) (rest := []) (wr := (ma_W cA ad (ss, sp, fo, ba, no, en, vs, vf, vg)) ++ (pl_W cA (fun k => ad (k + 8)) PM) ++ (tm_W cA (fun k => ad (k + 12)) XM) ++ (tm_W cA (fun k => ad (k + 19)) YM)) ⟨hx, hb, hml, hown, hts⟩ hK hP hD hS hA [1, 2, 3, 4, 5, 6, 7] [0, 8, 9, 10, 11, 12, 13, 14, 15, 16, 17, 18, 19, 20, 21, 22, 23, 24, 25] rfl rfl (by decide) (by decide) (by decide) (c_Heap_state l dC dI cA (fun k => ad (k + 1)) _ SM vf (by first | exact (hv h5).1 | exact (hv h5).2)) (cwV 1 hts (lm_gV m_10_16 m_10_17 m_10_18 m_0_2 m_10_19) rfl rfl rfl (by decide +kernel) ⟨Nat.le_of_ble_eq_true rfl, Nat.le_of_ble_eq_true rfl⟩) (va_recv (q0 := 1) hK hP rfl rfl) lm_bl_no (fun _ _ _ => trivial) hl.1 rfl rfl (Nat.le_of_ble_eq_true rfl) d_LazyMachine_stepPart_31 ⟨Nat.le_of_ble_eq_true rfl, Nat.le_of_ble_eq_true rfl⟩ (fun r31 u31 H locs w31 hP hD hS => ?_)
      obtain ⟨e_r31, w31⟩ := w31
      replace w31 := w31.symm
      subst w31
      have hP : va_P (dC, dI) classes (lz_W cA ad ((ss, sp, fo, ba, no, en, vs, vf, vg), SM, PM, XM, YM)) H := hP.sub [0, 19, 20, 21, 22, 23, 24, 25, 1, 2, 3, 4, 5, 6, 7, 8, 9, 10, 11, 12, 13, 14, 15, 16, 17, 18] rfl
      have hD : va_D A (lz_W cA ad ((ss, sp, fo, ba, no, en, vs, vf, vg), SM, PM, XM, YM)) := hD.sub [0, 19, 20, 21, 22, 23, 24, 25, 1, 2, 3, 4, 5, 6, 7, 8, 9, 10, 11, 12, 13, 14, 15, 16, 17, 18] (by decide) rfl
      refine lv_iconst (v := 4) hx hb d_LazyMachine_stepPart_34 (by decide) ?_
      refine lv_icmp_ne hx hb d_LazyMachine_stepPart_35 rfl (fun h35 => ?_) (fun h35 => ?_)
      · refine lv_aload_n hx hb d_LazyMachine_stepPart_40 rfl (lv_at hl 1 rfl) ?_
        refine va_get (D := (dC, dI)) (ci := 0) (v := .ref (ad 8)) (C := R_LazyMachine) (T := F_LazyMachine) (N := 13) hx hb hts (fun q hq => List.mem_cons_of_mem _ (i_LazyMachine q hq)) hown hK hP 0 rfl rfl 1 (by decide) (hts _ (List.mem_cons_of_mem _ m_2_8)) (fun _ h9 => h9) rfl d_LazyMachine_stepPart_41 ?_
        refine lm_vv (b := ad 8) (As := []) (rest := []) (wr := (ma_W cA ad (ss, sp, fo, ba, no, en, vs, vf, vg)) ++ (hp_W cA (fun k => ad (k + 1)) SM) ++ (tm_W cA (fun k => ad (k + 12)) XM) ++ (tm_W cA (fun k => ad (k + 19)) YM)) ⟨hx, hb, hml, hown, hts⟩ hK hP hD hS hA [8, 9, 10, 11] [0, 1, 2, 3, 4, 5, 6, 7, 12, 13, 14, 15, 16, 17, 18, 19, 20, 21, 22, 23, 24, 25] rfl rfl (by decide) (by decide) (by decide) (c_Pile_drop l dC dI cA (fun k => ad (k + 8)) _ PM  ) (cwV 0 hts (lm_gV m_7_20 m_7_21 m_7_22 m_0_3 m_7_23) rfl rfl rfl (by decide +kernel) ⟨Nat.le_of_ble_eq_true rfl, Nat.le_of_ble_eq_true rfl⟩) (va_recv (q0 := 8) hK hP rfl rfl) lm_bl_no (fun _ _ _ => trivial) hl.1 rfl rfl (Nat.le_of_ble_eq_true rfl) d_LazyMachine_stepPart_44 ⟨Nat.le_of_ble_eq_true rfl, Nat.le_of_ble_eq_true rfl⟩ (fun u44 H locs w44 hP hD hS => ?_)
        have hP : va_P (dC, dI) classes (lz_W cA ad ((ss, sp, fo, ba, no, en, vs, vf, vg), SM, u44, XM, YM)) H := hP.sub [0, 1, 2, 3, 4, 5, 6, 7, 22, 23, 24, 25, 8, 9, 10, 11, 12, 13, 14, 15, 16, 17, 18, 19, 20, 21] rfl
        have hD : va_D A (lz_W cA ad ((ss, sp, fo, ba, no, en, vs, vf, vg), SM, u44, XM, YM)) := hD.sub [0, 1, 2, 3, 4, 5, 6, 7, 22, 23, 24, 25, 8, 9, 10, 11, 12, 13, 14, 15, 16, 17, 18, 19, 20, 21] (by decide) rfl
        refine lv_aload_n hx hb d_LazyMachine_stepPart_47 rfl (lv_at hl 1 rfl) ?_
        refine lv_iload_n hx hb d_LazyMachine_stepPart_48 rfl (lv_at hl 0 rfl) ?_
        refine lm_vi (b := ad 0) (As := [.int vf]) (rest := []) (wr := ([] : va_W)) ⟨hx, hb, hml, hown, hts⟩ hK hP hD hS hA [0, 1, 2, 3, 4, 5, 6, 7, 8, 9, 10, 11, 12, 13, 14, 15, 16, 17, 18, 19, 20, 21, 22, 23, 24, 25] [] rfl rfl (by decide) (by decide) (by decide) (c_LazyMachine_ask l dC dI cA ad _ ((ss, sp, fo, ba, no, en, vs, vf, vg), SM, u44, XM, YM) vf (by first | exact (hv h5).1 | exact (hv h5).2) (by show pl_ok u44; rw [w44]; exact pl_ok_drop hz)) (cwV 1 hts (lm_gV m_10_20 m_10_21 m_19_17 m_0_1 m_10_22) rfl rfl rfl (by decide +kernel) ⟨Nat.le_of_ble_eq_true rfl, Nat.le_of_ble_eq_true rfl⟩) (va_recv (q0 := 0) hK hP rfl rfl) lm_bl_no (fun _ _ _ => trivial) hl.1 rfl rfl (Nat.le_of_ble_eq_true rfl) d_LazyMachine_stepPart_49 ⟨Nat.le_of_ble_eq_true rfl, Nat.le_of_ble_eq_true rfl⟩ (fun r49 u49 H locs w49 hP hD hS => ?_)
        obtain ⟨e_r49, w49⟩ := w49
        have hP : va_P (dC, dI) classes (lz_W cA ad u49) H := hP
        have hD : va_D A (lz_W cA ad u49) := hD
        refine lm_ri (v := r49) hx hb hr hlocks u49 ?_ hP hK hD hS d_LazyMachine_stepPart_52
        subst e_r31 w44 e_r49 w49; unfold ma_part; (first | rw [if_pos h5] | rw [if_neg h5]); (first | rw [if_pos h11] | rw [if_neg h11]); (first | rw [if_pos h35] | rw [if_neg h35]); exact ⟨rfl, rfl⟩
      · refine lv_iconst (v := 4) hx hb d_LazyMachine_stepPart_38 (by decide) ?_
        refine lm_ri (v := 4) hx hb hr hlocks ((ss, sp, fo, ba, no, en, vs, vf, vg), SM, PM, XM, YM) ?_ hP hK hD hS d_LazyMachine_stepPart_39
        subst e_r31; unfold ma_part; (first | rw [if_pos h5] | rw [if_neg h5]); (first | rw [if_pos h11] | rw [if_neg h11]); (first | rw [if_pos h35] | rw [if_neg h35]); exact ⟨rfl, rfl⟩
  · refine lv_iconst (v := 3) hx hb d_LazyMachine_stepPart_8 (by decide) ?_
    refine lm_ri (v := 3) hx hb hr hlocks ((ss, sp, fo, ba, no, en, vs, vf, vg), SM, PM, XM, YM) ?_ hP hK hD hS d_LazyMachine_stepPart_9
    unfold ma_part; (first | rw [if_pos h5] | rw [if_neg h5]); exact ⟨rfl, rfl⟩
end
section
theorem d_LazyMachine_stepAt_0 : decode b_LazyMachine_stepAt 0 = .ok (.aload_n 0, 1) := by decide +kernel
theorem d_LazyMachine_stepAt_1 : decode b_LazyMachine_stepAt 1 = .ok (.getfield 30, 3) := by decide +kernel
theorem d_LazyMachine_stepAt_4 : decode b_LazyMachine_stepAt 4 = .ok (.aload_n 0, 1) := by decide +kernel
theorem d_LazyMachine_stepAt_5 : decode b_LazyMachine_stepAt 5 = .ok (.getfield 132, 3) := by decide +kernel
theorem d_LazyMachine_stepAt_8 : decode b_LazyMachine_stepAt 8 = .ok (.invokevirtual 146, 3) := by decide +kernel
theorem d_LazyMachine_stepAt_11 : decode b_LazyMachine_stepAt 11 = .ok (.tableswitch 178 0 13 #[69, 96, 110, 115, 178, 178, 178, 178, 133, 147, 152, 157, 162, 170], 69) := by decide +kernel
theorem d_LazyMachine_stepAt_80 : decode b_LazyMachine_stepAt 80 = .ok (.aload_n 0, 1) := by decide +kernel
theorem d_LazyMachine_stepAt_81 : decode b_LazyMachine_stepAt 81 = .ok (.aload_n 0, 1) := by decide +kernel
theorem d_LazyMachine_stepAt_82 : decode b_LazyMachine_stepAt 82 = .ok (.getfield 10, 3) := by decide +kernel
theorem d_LazyMachine_stepAt_85 : decode b_LazyMachine_stepAt 85 = .ok (.aload_n 0, 1) := by decide +kernel
theorem d_LazyMachine_stepAt_86 : decode b_LazyMachine_stepAt 86 = .ok (.getfield 37, 3) := by decide +kernel
theorem d_LazyMachine_stepAt_89 : decode b_LazyMachine_stepAt 89 = .ok (.aload_n 0, 1) := by decide +kernel
theorem d_LazyMachine_stepAt_90 : decode b_LazyMachine_stepAt 90 = .ok (.getfield 30, 3) := by decide +kernel
theorem d_LazyMachine_stepAt_93 : decode b_LazyMachine_stepAt 93 = .ok (.aload_n 0, 1) := by decide +kernel
theorem d_LazyMachine_stepAt_94 : decode b_LazyMachine_stepAt 94 = .ok (.getfield 132, 3) := by decide +kernel
theorem d_LazyMachine_stepAt_97 : decode b_LazyMachine_stepAt 97 = .ok (.invokevirtual 149, 3) := by decide +kernel
theorem d_LazyMachine_stepAt_100 : decode b_LazyMachine_stepAt 100 = .ok (.invokevirtual 152, 3) := by decide +kernel
theorem d_LazyMachine_stepAt_103 : decode b_LazyMachine_stepAt 103 = .ok (.invokevirtual 105, 3) := by decide +kernel
theorem d_LazyMachine_stepAt_106 : decode b_LazyMachine_stepAt 106 = .ok (.ireturn, 1) := by decide +kernel
theorem d_LazyMachine_stepAt_107 : decode b_LazyMachine_stepAt 107 = .ok (.aload_n 0, 1) := by decide +kernel
theorem d_LazyMachine_stepAt_108 : decode b_LazyMachine_stepAt 108 = .ok (.iconst 1, 1) := by decide +kernel
theorem d_LazyMachine_stepAt_109 : decode b_LazyMachine_stepAt 109 = .ok (.aload_n 0, 1) := by decide +kernel
theorem d_LazyMachine_stepAt_110 : decode b_LazyMachine_stepAt 110 = .ok (.getfield 132, 3) := by decide +kernel
theorem d_LazyMachine_stepAt_113 : decode b_LazyMachine_stepAt 113 = .ok (.aload_n 0, 1) := by decide +kernel
theorem d_LazyMachine_stepAt_114 : decode b_LazyMachine_stepAt 114 = .ok (.getfield 37, 3) := by decide +kernel
theorem d_LazyMachine_stepAt_117 : decode b_LazyMachine_stepAt 117 = .ok (.invokevirtual 156, 3) := by decide +kernel
theorem d_LazyMachine_stepAt_120 : decode b_LazyMachine_stepAt 120 = .ok (.ireturn, 1) := by decide +kernel
theorem d_LazyMachine_stepAt_121 : decode b_LazyMachine_stepAt 121 = .ok (.aload_n 0, 1) := by decide +kernel
theorem d_LazyMachine_stepAt_122 : decode b_LazyMachine_stepAt 122 = .ok (.invokevirtual 159, 3) := by decide +kernel
theorem d_LazyMachine_stepAt_125 : decode b_LazyMachine_stepAt 125 = .ok (.ireturn, 1) := by decide +kernel
theorem d_LazyMachine_stepAt_126 : decode b_LazyMachine_stepAt 126 = .ok (.aload_n 0, 1) := by decide +kernel
theorem d_LazyMachine_stepAt_127 : decode b_LazyMachine_stepAt 127 = .ok (.iconst 0, 1) := by decide +kernel
theorem d_LazyMachine_stepAt_128 : decode b_LazyMachine_stepAt 128 = .ok (.aload_n 0, 1) := by decide +kernel
theorem d_LazyMachine_stepAt_129 : decode b_LazyMachine_stepAt 129 = .ok (.getfield 30, 3) := by decide +kernel
theorem d_LazyMachine_stepAt_132 : decode b_LazyMachine_stepAt 132 = .ok (.aload_n 0, 1) := by decide +kernel
theorem d_LazyMachine_stepAt_133 : decode b_LazyMachine_stepAt 133 = .ok (.getfield 132, 3) := by decide +kernel
theorem d_LazyMachine_stepAt_136 : decode b_LazyMachine_stepAt 136 = .ok (.invokevirtual 149, 3) := by decide +kernel
theorem d_LazyMachine_stepAt_139 : decode b_LazyMachine_stepAt 139 = .ok (.iconst (-1), 1) := by decide +kernel
theorem d_LazyMachine_stepAt_140 : decode b_LazyMachine_stepAt 140 = .ok (.invokevirtual 156, 3) := by decide +kernel
theorem d_LazyMachine_stepAt_143 : decode b_LazyMachine_stepAt 143 = .ok (.ireturn, 1) := by decide +kernel
theorem d_LazyMachine_stepAt_144 : decode b_LazyMachine_stepAt 144 = .ok (.aload_n 0, 1) := by decide +kernel
theorem d_LazyMachine_stepAt_145 : decode b_LazyMachine_stepAt 145 = .ok (.iconst 4, 1) := by decide +kernel
theorem d_LazyMachine_stepAt_146 : decode b_LazyMachine_stepAt 146 = .ok (.aload_n 0, 1) := by decide +kernel
theorem d_LazyMachine_stepAt_147 : decode b_LazyMachine_stepAt 147 = .ok (.getfield 132, 3) := by decide +kernel
theorem d_LazyMachine_stepAt_150 : decode b_LazyMachine_stepAt 150 = .ok (.aload_n 0, 1) := by decide +kernel
theorem d_LazyMachine_stepAt_151 : decode b_LazyMachine_stepAt 151 = .ok (.getfield 37, 3) := by decide +kernel
theorem d_LazyMachine_stepAt_154 : decode b_LazyMachine_stepAt 154 = .ok (.invokevirtual 162, 3) := by decide +kernel
theorem d_LazyMachine_stepAt_157 : decode b_LazyMachine_stepAt 157 = .ok (.ireturn, 1) := by decide +kernel
theorem d_LazyMachine_stepAt_158 : decode b_LazyMachine_stepAt 158 = .ok (.aload_n 0, 1) := by decide +kernel
theorem d_LazyMachine_stepAt_159 : decode b_LazyMachine_stepAt 159 = .ok (.invokevirtual 165, 3) := by decide +kernel
theorem d_LazyMachine_stepAt_162 : decode b_LazyMachine_stepAt 162 = .ok (.ireturn, 1) := by decide +kernel
theorem d_LazyMachine_stepAt_163 : decode b_LazyMachine_stepAt 163 = .ok (.aload_n 0, 1) := by decide +kernel
theorem d_LazyMachine_stepAt_164 : decode b_LazyMachine_stepAt 164 = .ok (.invokevirtual 168, 3) := by decide +kernel
theorem d_LazyMachine_stepAt_167 : decode b_LazyMachine_stepAt 167 = .ok (.ireturn, 1) := by decide +kernel
theorem d_LazyMachine_stepAt_168 : decode b_LazyMachine_stepAt 168 = .ok (.aload_n 0, 1) := by decide +kernel
theorem d_LazyMachine_stepAt_169 : decode b_LazyMachine_stepAt 169 = .ok (.invokevirtual 171, 3) := by decide +kernel
theorem d_LazyMachine_stepAt_172 : decode b_LazyMachine_stepAt 172 = .ok (.ireturn, 1) := by decide +kernel
theorem d_LazyMachine_stepAt_173 : decode b_LazyMachine_stepAt 173 = .ok (.aload_n 0, 1) := by decide +kernel
theorem d_LazyMachine_stepAt_174 : decode b_LazyMachine_stepAt 174 = .ok (.iconst 5, 1) := by decide +kernel
theorem d_LazyMachine_stepAt_175 : decode b_LazyMachine_stepAt 175 = .ok (.iconst 0, 1) := by decide +kernel
theorem d_LazyMachine_stepAt_176 : decode b_LazyMachine_stepAt 176 = .ok (.iconst (-1), 1) := by decide +kernel
theorem d_LazyMachine_stepAt_177 : decode b_LazyMachine_stepAt 177 = .ok (.invokevirtual 162, 3) := by decide +kernel
theorem d_LazyMachine_stepAt_180 : decode b_LazyMachine_stepAt 180 = .ok (.ireturn, 1) := by decide +kernel
theorem d_LazyMachine_stepAt_181 : decode b_LazyMachine_stepAt 181 = .ok (.aload_n 0, 1) := by decide +kernel
theorem d_LazyMachine_stepAt_182 : decode b_LazyMachine_stepAt 182 = .ok (.iconst 5, 1) := by decide +kernel
theorem d_LazyMachine_stepAt_183 : decode b_LazyMachine_stepAt 183 = .ok (.iconst 1, 1) := by decide +kernel
theorem d_LazyMachine_stepAt_184 : decode b_LazyMachine_stepAt 184 = .ok (.iconst (-1), 1) := by decide +kernel
theorem d_LazyMachine_stepAt_185 : decode b_LazyMachine_stepAt 185 = .ok (.invokevirtual 162, 3) := by decide +kernel
theorem d_LazyMachine_stepAt_188 : decode b_LazyMachine_stepAt 188 = .ok (.ireturn, 1) := by decide +kernel
theorem d_LazyMachine_stepAt_189 : decode b_LazyMachine_stepAt 189 = .ok (.aload_n 0, 1) := by decide +kernel
theorem d_LazyMachine_stepAt_190 : decode b_LazyMachine_stepAt 190 = .ok (.iconst 2, 1) := by decide +kernel
theorem d_LazyMachine_stepAt_191 : decode b_LazyMachine_stepAt 191 = .ok (.aload_n 0, 1) := by decide +kernel
theorem d_LazyMachine_stepAt_192 : decode b_LazyMachine_stepAt 192 = .ok (.getfield 132, 3) := by decide +kernel
theorem d_LazyMachine_stepAt_195 : decode b_LazyMachine_stepAt 195 = .ok (.aload_n 0, 1) := by decide +kernel
theorem d_LazyMachine_stepAt_196 : decode b_LazyMachine_stepAt 196 = .ok (.getfield 37, 3) := by decide +kernel
theorem d_LazyMachine_stepAt_199 : decode b_LazyMachine_stepAt 199 = .ok (.invokevirtual 162, 3) := by decide +kernel
theorem d_LazyMachine_stepAt_202 : decode b_LazyMachine_stepAt 202 = .ok (.ireturn, 1) := by decide +kernel
theorem d_LazyMachine_stepBack_0 : decode b_LazyMachine_stepBack 0 = .ok (.aload_n 0, 1) := by decide +kernel
theorem d_LazyMachine_stepBack_1 : decode b_LazyMachine_stepBack 1 = .ok (.getfield 19, 3) := by decide +kernel
theorem d_LazyMachine_stepBack_4 : decode b_LazyMachine_stepBack 4 = .ok (.invokevirtual 190, 3) := by decide +kernel
theorem d_LazyMachine_stepBack_7 : decode b_LazyMachine_stepBack 7 = .ok (.istore_n 1, 1) := by decide +kernel
theorem d_LazyMachine_stepBack_8 : decode b_LazyMachine_stepBack 8 = .ok (.aload_n 0, 1) := by decide +kernel
theorem d_LazyMachine_stepBack_9 : decode b_LazyMachine_stepBack 9 = .ok (.getfield 19, 3) := by decide +kernel
theorem d_LazyMachine_stepBack_12 : decode b_LazyMachine_stepBack 12 = .ok (.invokevirtual 193, 3) := by decide +kernel
theorem d_LazyMachine_stepBack_15 : decode b_LazyMachine_stepBack 15 = .ok (.tableswitch 117 0 5 #[37, 66, 72, 85, 98, 111], 37) := by decide +kernel
theorem d_LazyMachine_stepBack_52 : decode b_LazyMachine_stepBack 52 = .ok (.aload_n 0, 1) := by decide +kernel
theorem d_LazyMachine_stepBack_53 : decode b_LazyMachine_stepBack 53 = .ok (.getfield 19, 3) := by decide +kernel
theorem d_LazyMachine_stepBack_56 : decode b_LazyMachine_stepBack 56 = .ok (.invokevirtual 196, 3) := by decide +kernel
theorem d_LazyMachine_stepBack_59 : decode b_LazyMachine_stepBack 59 = .ok (.aload_n 0, 1) := by decide +kernel
theorem d_LazyMachine_stepBack_60 : decode b_LazyMachine_stepBack 60 = .ok (.getfield 10, 3) := by decide +kernel
theorem d_LazyMachine_stepBack_63 : decode b_LazyMachine_stepBack 63 = .ok (.iload_n 1, 1) := by decide +kernel
theorem d_LazyMachine_stepBack_64 : decode b_LazyMachine_stepBack 64 = .ok (.aload_n 0, 1) := by decide +kernel
theorem d_LazyMachine_stepBack_65 : decode b_LazyMachine_stepBack 65 = .ok (.getfield 98, 3) := by decide +kernel
theorem d_LazyMachine_stepBack_68 : decode b_LazyMachine_stepBack 68 = .ok (.aload_n 0, 1) := by decide +kernel
theorem d_LazyMachine_stepBack_69 : decode b_LazyMachine_stepBack 69 = .ok (.getfield 40, 3) := by decide +kernel
theorem d_LazyMachine_stepBack_72 : decode b_LazyMachine_stepBack 72 = .ok (.aload_n 0, 1) := by decide +kernel
theorem d_LazyMachine_stepBack_73 : decode b_LazyMachine_stepBack 73 = .ok (.getfield 43, 3) := by decide +kernel
theorem d_LazyMachine_stepBack_76 : decode b_LazyMachine_stepBack 76 = .ok (.invokevirtual 199, 3) := by decide +kernel
theorem d_LazyMachine_stepBack_79 : decode b_LazyMachine_stepBack 79 = .ok (.iconst 1, 1) := by decide +kernel
theorem d_LazyMachine_stepBack_80 : decode b_LazyMachine_stepBack 80 = .ok (.ireturn, 1) := by decide +kernel
theorem d_LazyMachine_stepBack_81 : decode b_LazyMachine_stepBack 81 = .ok (.aload_n 0, 1) := by decide +kernel
theorem d_LazyMachine_stepBack_82 : decode b_LazyMachine_stepBack 82 = .ok (.iload_n 1, 1) := by decide +kernel
theorem d_LazyMachine_stepBack_83 : decode b_LazyMachine_stepBack 83 = .ok (.invokevirtual 203, 3) := by decide +kernel
theorem d_LazyMachine_stepBack_86 : decode b_LazyMachine_stepBack 86 = .ok (.ireturn, 1) := by decide +kernel
theorem d_LazyMachine_stepBack_87 : decode b_LazyMachine_stepBack 87 = .ok (.aload_n 0, 1) := by decide +kernel
theorem d_LazyMachine_stepBack_88 : decode b_LazyMachine_stepBack 88 = .ok (.iload_n 1, 1) := by decide +kernel
theorem d_LazyMachine_stepBack_89 : decode b_LazyMachine_stepBack 89 = .ok (.aload_n 0, 1) := by decide +kernel
theorem d_LazyMachine_stepBack_90 : decode b_LazyMachine_stepBack 90 = .ok (.getfield 19, 3) := by decide +kernel
theorem d_LazyMachine_stepBack_93 : decode b_LazyMachine_stepBack 93 = .ok (.invokevirtual 206, 3) := by decide +kernel
theorem d_LazyMachine_stepBack_96 : decode b_LazyMachine_stepBack 96 = .ok (.invokevirtual 209, 3) := by decide +kernel
theorem d_LazyMachine_stepBack_99 : decode b_LazyMachine_stepBack 99 = .ok (.ireturn, 1) := by decide +kernel
theorem d_LazyMachine_stepBack_100 : decode b_LazyMachine_stepBack 100 = .ok (.aload_n 0, 1) := by decide +kernel
theorem d_LazyMachine_stepBack_101 : decode b_LazyMachine_stepBack 101 = .ok (.iload_n 1, 1) := by decide +kernel
theorem d_LazyMachine_stepBack_102 : decode b_LazyMachine_stepBack 102 = .ok (.aload_n 0, 1) := by decide +kernel
theorem d_LazyMachine_stepBack_103 : decode b_LazyMachine_stepBack 103 = .ok (.getfield 19, 3) := by decide +kernel
theorem d_LazyMachine_stepBack_106 : decode b_LazyMachine_stepBack 106 = .ok (.invokevirtual 206, 3) := by decide +kernel
theorem d_LazyMachine_stepBack_109 : decode b_LazyMachine_stepBack 109 = .ok (.invokevirtual 212, 3) := by decide +kernel
theorem d_LazyMachine_stepBack_112 : decode b_LazyMachine_stepBack 112 = .ok (.ireturn, 1) := by decide +kernel
theorem d_LazyMachine_stepBack_113 : decode b_LazyMachine_stepBack 113 = .ok (.aload_n 0, 1) := by decide +kernel
theorem d_LazyMachine_stepBack_114 : decode b_LazyMachine_stepBack 114 = .ok (.iload_n 1, 1) := by decide +kernel
theorem d_LazyMachine_stepBack_115 : decode b_LazyMachine_stepBack 115 = .ok (.aload_n 0, 1) := by decide +kernel
theorem d_LazyMachine_stepBack_116 : decode b_LazyMachine_stepBack 116 = .ok (.getfield 19, 3) := by decide +kernel
theorem d_LazyMachine_stepBack_119 : decode b_LazyMachine_stepBack 119 = .ok (.invokevirtual 206, 3) := by decide +kernel
theorem d_LazyMachine_stepBack_122 : decode b_LazyMachine_stepBack 122 = .ok (.invokevirtual 215, 3) := by decide +kernel
theorem d_LazyMachine_stepBack_125 : decode b_LazyMachine_stepBack 125 = .ok (.ireturn, 1) := by decide +kernel
theorem d_LazyMachine_stepBack_126 : decode b_LazyMachine_stepBack 126 = .ok (.aload_n 0, 1) := by decide +kernel
theorem d_LazyMachine_stepBack_127 : decode b_LazyMachine_stepBack 127 = .ok (.iload_n 1, 1) := by decide +kernel
theorem d_LazyMachine_stepBack_128 : decode b_LazyMachine_stepBack 128 = .ok (.invokevirtual 218, 3) := by decide +kernel
theorem d_LazyMachine_stepBack_131 : decode b_LazyMachine_stepBack 131 = .ok (.ireturn, 1) := by decide +kernel
theorem d_LazyMachine_stepBack_132 : decode b_LazyMachine_stepBack 132 = .ok (.iconst 2, 1) := by decide +kernel
theorem d_LazyMachine_stepBack_133 : decode b_LazyMachine_stepBack 133 = .ok (.ireturn, 1) := by decide +kernel
theorem d_LazyMachine_run_0 : decode b_LazyMachine_run 0 = .ok (.aload_n 0, 1) := by decide +kernel
theorem d_LazyMachine_run_1 : decode b_LazyMachine_run 1 = .ok (.getfield 33, 3) := by decide +kernel
theorem d_LazyMachine_run_4 : decode b_LazyMachine_run 4 = .ok (.ifCond .ne 13, 3) := by decide +kernel
theorem d_LazyMachine_run_7 : decode b_LazyMachine_run 7 = .ok (.new 76, 3) := by decide +kernel
theorem d_LazyMachine_run_10 : decode b_LazyMachine_run 10 = .ok (.dup, 1) := by decide +kernel
theorem d_LazyMachine_run_11 : decode b_LazyMachine_run 11 = .ok (.ldc 78, 2) := by decide +kernel
theorem d_LazyMachine_run_13 : decode b_LazyMachine_run 13 = .ok (.invokespecial 80, 3) := by decide +kernel
theorem d_LazyMachine_run_16 : decode b_LazyMachine_run 16 = .ok (.athrow, 1) := by decide +kernel
theorem d_LazyMachine_run_17 : decode b_LazyMachine_run 17 = .ok (.iload_n 1, 1) := by decide +kernel
theorem d_LazyMachine_run_18 : decode b_LazyMachine_run 18 = .ok (.ifCond .lt 10, 3) := by decide +kernel
theorem d_LazyMachine_run_21 : decode b_LazyMachine_run 21 = .ok (.iload_n 1, 1) := by decide +kernel
theorem d_LazyMachine_run_22 : decode b_LazyMachine_run 22 = .ok (.sipush 5000, 3) := by decide +kernel
theorem d_LazyMachine_run_25 : decode b_LazyMachine_run 25 = .ok (.if_icmp .le 13, 3) := by decide +kernel
theorem d_LazyMachine_run_28 : decode b_LazyMachine_run 28 = .ok (.new 46, 3) := by decide +kernel
theorem d_LazyMachine_run_31 : decode b_LazyMachine_run 31 = .ok (.dup, 1) := by decide +kernel
theorem d_LazyMachine_run_32 : decode b_LazyMachine_run 32 = .ok (.ldc 81, 2) := by decide +kernel
theorem d_LazyMachine_run_34 : decode b_LazyMachine_run 34 = .ok (.invokespecial 50, 3) := by decide +kernel
theorem d_LazyMachine_run_37 : decode b_LazyMachine_run 37 = .ok (.athrow, 1) := by decide +kernel
theorem d_LazyMachine_run_38 : decode b_LazyMachine_run 38 = .ok (.iconst 0, 1) := by decide +kernel
theorem d_LazyMachine_run_39 : decode b_LazyMachine_run 39 = .ok (.istore_n 2, 1) := by decide +kernel
theorem d_LazyMachine_run_40 : decode b_LazyMachine_run 40 = .ok (.iload_n 2, 1) := by decide +kernel
theorem d_LazyMachine_run_41 : decode b_LazyMachine_run 41 = .ok (.iload_n 1, 1) := by decide +kernel
theorem d_LazyMachine_run_42 : decode b_LazyMachine_run 42 = .ok (.if_icmp .ge 65, 3) := by decide +kernel
theorem d_LazyMachine_run_45 : decode b_LazyMachine_run 45 = .ok (.aload_n 0, 1) := by decide +kernel
theorem d_LazyMachine_run_46 : decode b_LazyMachine_run 46 = .ok (.getfield 33, 3) := by decide +kernel
theorem d_LazyMachine_run_49 : decode b_LazyMachine_run 49 = .ok (.iconst 1, 1) := by decide +kernel
theorem d_LazyMachine_run_50 : decode b_LazyMachine_run 50 = .ok (.if_icmp .ne 57, 3) := by decide +kernel
theorem d_LazyMachine_run_53 : decode b_LazyMachine_run 53 = .ok (.aload_n 0, 1) := by decide +kernel
theorem d_LazyMachine_run_54 : decode b_LazyMachine_run 54 = .ok (.aload_n 0, 1) := by decide +kernel
theorem d_LazyMachine_run_55 : decode b_LazyMachine_run 55 = .ok (.getfield 83, 3) := by decide +kernel
theorem d_LazyMachine_run_58 : decode b_LazyMachine_run 58 = .ok (.ifCond .eq 10, 3) := by decide +kernel
theorem d_LazyMachine_run_61 : decode b_LazyMachine_run 61 = .ok (.aload_n 0, 1) := by decide +kernel
theorem d_LazyMachine_run_62 : decode b_LazyMachine_run 62 = .ok (.invokevirtual 87, 3) := by decide +kernel
theorem d_LazyMachine_run_65 : decode b_LazyMachine_run 65 = .ok (.goto 7, 3) := by decide +kernel
theorem d_LazyMachine_run_68 : decode b_LazyMachine_run 68 = .ok (.aload_n 0, 1) := by decide +kernel
theorem d_LazyMachine_run_69 : decode b_LazyMachine_run 69 = .ok (.invokevirtual 90, 3) := by decide +kernel
theorem d_LazyMachine_run_72 : decode b_LazyMachine_run 72 = .ok (.putfield 33, 3) := by decide +kernel
theorem d_LazyMachine_run_75 : decode b_LazyMachine_run 75 = .ok (.aload_n 0, 1) := by decide +kernel
theorem d_LazyMachine_run_76 : decode b_LazyMachine_run 76 = .ok (.getfield 33, 3) := by decide +kernel
theorem d_LazyMachine_run_79 : decode b_LazyMachine_run 79 = .ok (.iconst 1, 1) := by decide +kernel
theorem d_LazyMachine_run_80 : decode b_LazyMachine_run 80 = .ok (.if_icmp .eq 11, 3) := by decide +kernel
theorem d_LazyMachine_run_83 : decode b_LazyMachine_run 83 = .ok (.aload_n 0, 1) := by decide +kernel
theorem d_LazyMachine_run_84 : decode b_LazyMachine_run 84 = .ok (.getfield 33, 3) := by decide +kernel
theorem d_LazyMachine_run_87 : decode b_LazyMachine_run 87 = .ok (.iconst 2, 1) := by decide +kernel
theorem d_LazyMachine_run_88 : decode b_LazyMachine_run 88 = .ok (.if_icmp .ne 13, 3) := by decide +kernel
theorem d_LazyMachine_run_91 : decode b_LazyMachine_run 91 = .ok (.aload_n 0, 1) := by decide +kernel
theorem d_LazyMachine_run_92 : decode b_LazyMachine_run 92 = .ok (.dup, 1) := by decide +kernel
theorem d_LazyMachine_run_93 : decode b_LazyMachine_run 93 = .ok (.getfield 93, 3) := by decide +kernel
theorem d_LazyMachine_run_96 : decode b_LazyMachine_run 96 = .ok (.iconst 1, 1) := by decide +kernel
theorem d_LazyMachine_run_97 : decode b_LazyMachine_run 97 = .ok (.iadd, 1) := by decide +kernel
theorem d_LazyMachine_run_98 : decode b_LazyMachine_run 98 = .ok (.putfield 93, 3) := by decide +kernel
theorem d_LazyMachine_run_101 : decode b_LazyMachine_run 101 = .ok (.iinc 2 1, 3) := by decide +kernel
theorem d_LazyMachine_run_104 : decode b_LazyMachine_run 104 = .ok (.goto (-64), 3) := by decide +kernel
theorem d_LazyMachine_run_107 : decode b_LazyMachine_run 107 = .ok (.aload_n 0, 1) := by decide +kernel
theorem d_LazyMachine_run_108 : decode b_LazyMachine_run 108 = .ok (.getfield 33, 3) := by decide +kernel
theorem d_LazyMachine_run_111 : decode b_LazyMachine_run 111 = .ok (.ireturn, 1) := by decide +kernel
end
section
set_option maxHeartbeats 4000000 in
set_option maxRecDepth 100000 in
theorem c_LazyMachine_stepAt (l : Launch) (dC : Nat → ClassId) (dI : Nat → Nat → Nat) (cA : ClassId)  (ad : Nat → Nat) (sz : Nat) (M : ZMS)  (hsf : sf_at M) : Met l y_LazyMachine_stepAt w_LazyMachine_stepAt ({ frames := 5, cells := 0, slots := 0, locals := 110 } : Room) (va_Pc [.ref (ad 0)] (lm_pre (dC, dI) classes [(cA, .int)] (lz_W cA ad M) sz lm_no)) (va_Qi (fun (r : Int32) (u : ZMS) => r = (ma_at M).1 ∧ u = (ma_at M).2) (fun u => lm_at (dC, dI) classes [(cA, .int)] (va_A (lz_W cA ad M) sz) (lz_W cA ad u)) (va_A (lz_W cA ad M) sz)) 0 0 (va_A (lz_W cA ad M) sz) := by
  obtain ⟨⟨ss, sp, fo, ba, no, en, vs, vf, vg⟩, SM, PM, XM, YM⟩ := M
  obtain ⟨hi, ht, hn, he, hbd⟩ := hsf
  refine lm_met (fun A => va_Qi (fun (r : Int32) (u : ZMS) => r = (ma_at ((ss, sp, fo, ba, no, en, vs, vf, vg), SM, PM, XM, YM)).1 ∧ u = (ma_at ((ss, sp, fo, ba, no, en, vs, vf, vg), SM, PM, XM, YM)).2) (fun u => lm_at (dC, dI) classes [(cA, .int)] A (lz_W cA ad u)) A) (by decide) rfl (Nat.le_of_ble_eq_true rfl) ?_
  intro p e s m below meth c A hx hb hr hts hown hlocks hname hml hK hP hD hA hE hsz hAe hS ls hl
  replace hl : lv_has ls 1 [(0, .ref (ad 0))] := hl
  clear hAe hsz
  refine lv_aload_n hx hb d_LazyMachine_stepAt_0 rfl (lv_at hl 0 rfl) ?_
  refine va_get (D := (dC, dI)) (ci := 0) (v := .ref (ad 19)) (C := R_LazyMachine) (T := F_LazyMachine) (N := 13) hx hb hts (fun q hq => List.mem_cons_of_mem _ (i_LazyMachine q hq)) hown hK hP 0 rfl rfl 3 (by decide) (hts _ (List.mem_cons_of_mem _ m_2_10)) (fun _ h9 => h9) rfl d_LazyMachine_stepAt_1 ?_
  refine lv_aload_n hx hb d_LazyMachine_stepAt_4 rfl (lv_at hl 0 rfl) ?_
  refine va_get (D := (dC, dI)) (ci := 0) (v := .int no) (C := R_LazyMachine) (T := F_LazyMachine) (N := 13) hx hb hts (fun q hq => List.mem_cons_of_mem _ (i_LazyMachine q hq)) hown hK hP 0 rfl rfl 8 (by decide) (hts _ (List.mem_cons_of_mem _ m_2_15)) (fun _ h9 => h9) rfl d_LazyMachine_stepAt_5 ?_
  refine lm_vi (b := ad 19) (As := [.int no]) (rest := []) (wr := (ma_W cA ad (ss, sp, fo, ba, no, en, vs, vf, vg)) ++ (hp_W cA (fun k => ad (k + 1)) SM) ++ (pl_W cA (fun k => ad (k + 8)) PM) ++ (tm_W cA (fun k => ad (k + 12)) XM)) ⟨hx, hb, hml, hown, hts⟩ hK hP hD hS hA [19, 20, 21, 22, 23, 24, 25] [0, 1, 2, 3, 4, 5, 6, 7, 8, 9, 10, 11, 12, 13, 14, 15, 16, 17, 18] rfl rfl (by decide) (by decide) (by decide) (c_Term_sort l dC dI cA (fun k => ad (k + 19)) _ YM no (by exact hn)) (cwV 1 hts (lm_gV m_10_0 m_10_1 m_10_2 m_0_4 m_10_3) rfl rfl rfl (by decide +kernel) ⟨Nat.le_of_ble_eq_true rfl, Nat.le_of_ble_eq_true rfl⟩) (va_recv (q0 := 19) hK hP rfl rfl) lm_bl_no (fun _ _ _ => trivial) hl.1 rfl rfl (Nat.le_of_ble_eq_true rfl) d_LazyMachine_stepAt_8 ⟨Nat.le_of_ble_eq_true rfl, Nat.le_of_ble_eq_true rfl⟩ (fun r8 u8 H locs w8 hP hD hS => ?_)
  obtain ⟨e_r8, w8⟩ := w8
  replace e_r8 := e_r8.symm
  subst e_r8
  replace w8 := w8.symm
  subst w8
  have hP : va_P (dC, dI) classes (lz_W cA ad ((ss, sp, fo, ba, no, en, vs, vf, vg), SM, PM, XM, YM)) H := hP
  have hD : va_D A (lz_W cA ad ((ss, sp, fo, ba, no, en, vs, vf, vg), SM, PM, XM, YM)) := hD
  by_cases h11_0 : (t_so YM no.toNatClampNeg) = 0
  · refine lv_tableIn (tgt := 80) hx hb d_LazyMachine_stepAt_11 (by rw [h11_0]; decide) (by rw [h11_0]; decide) (by rw [h11_0]; rfl) rfl ?_
    refine lv_aload_n hx hb d_LazyMachine_stepAt_80 rfl (lv_at hl 0 rfl) ?_
    refine lv_aload_n hx hb d_LazyMachine_stepAt_81 rfl (lv_at hl 0 rfl) ?_
    refine va_get (D := (dC, dI)) (ci := 0) (v := .ref (ad 1)) (C := R_LazyMachine) (T := F_LazyMachine) (N := 13) hx hb hts (fun q hq => List.mem_cons_of_mem _ (i_LazyMachine q hq)) hown hK hP 0 rfl rfl 0 (by decide) (hts _ (List.mem_cons_of_mem _ m_2_7)) (fun _ h9 => h9) rfl d_LazyMachine_stepAt_82 ?_
    refine lv_aload_n hx hb d_LazyMachine_stepAt_85 rfl (lv_at hl 0 rfl) ?_
    refine va_get (D := (dC, dI)) (ci := 0) (v := .int en) (C := R_LazyMachine) (T := F_LazyMachine) (N := 13) hx hb hts (fun q hq => List.mem_cons_of_mem _ (i_LazyMachine q hq)) hown hK hP 0 rfl rfl 9 (by decide) (hts _ (List.mem_cons_of_mem _ m_2_16)) (fun _ h9 => h9) rfl d_LazyMachine_stepAt_86 ?_
    refine lv_aload_n hx hb d_LazyMachine_stepAt_89 rfl (lv_at hl 0 rfl) ?_
    refine va_get (D := (dC, dI)) (ci := 0) (v := .ref (ad 19)) (C := R_LazyMachine) (T := F_LazyMachine) (N := 13) hx hb hts (fun q hq => List.mem_cons_of_mem _ (i_LazyMachine q hq)) hown hK hP 0 rfl rfl 3 (by decide) (hts _ (List.mem_cons_of_mem _ m_2_10)) (fun _ h9 => h9) rfl d_LazyMachine_stepAt_90 ?_
    refine lv_aload_n hx hb d_LazyMachine_stepAt_93 rfl (lv_at hl 0 rfl) ?_
    refine va_get (D := (dC, dI)) (ci := 0) (v := .int no) (C := R_LazyMachine) (T := F_LazyMachine) (N := 13) hx hb hts (fun q hq => List.mem_cons_of_mem _ (i_LazyMachine q hq)) hown hK hP 0 rfl rfl 8 (by decide) (hts _ (List.mem_cons_of_mem _ m_2_15)) (fun _ h9 => h9) rfl d_LazyMachine_stepAt_94 ?_
    refine lm_vi (b := ad 19) (As := [.int no]) (rest := [.int en, .ref (ad 1), .ref (ad 0)]) (wr := (ma_W cA ad (ss, sp, fo, ba, no, en, vs, vf, vg)) ++ (hp_W cA (fun k => ad (k + 1)) SM) ++ (pl_W cA (fun k => ad (k + 8)) PM) ++ (tm_W cA (fun k => ad (k + 12)) XM)) ⟨hx, hb, hml, hown, hts⟩ hK hP hD hS hA [19, 20, 21, 22, 23, 24, 25] [0, 1, 2, 3, 4, 5, 6, 7, 8, 9, 10, 11, 12, 13, 14, 15, 16, 17, 18] rfl rfl (by decide) (by decide) (by decide) (c_Term_x l dC dI cA (fun k => ad (k + 19)) _ YM no (by exact hn)) (cwV 1 hts (lm_gV m_11_11 m_11_12 m_11_13 m_0_4 m_11_14) rfl rfl rfl (by decide +kernel) ⟨Nat.le_of_ble_eq_true rfl, Nat.le_of_ble_eq_true rfl⟩) (va_recv (q0 := 19) hK hP rfl rfl) lm_bl_no (fun _ _ _ => trivial) hl.1 rfl rfl (Nat.le_of_ble_eq_true rfl) d_LazyMachine_stepAt_97 ⟨Nat.le_of_ble_eq_true rfl, Nat.le_of_ble_eq_true rfl⟩ (fun r97 u97 H locs w97 hP hD hS => ?_)
    obtain ⟨e_r97, w97⟩ := w97
    replace e_r97 := e_r97.symm
    subst e_r97
    replace w97 := w97.symm
    subst w97
    have hP : va_P (dC, dI) classes (lz_W cA ad ((ss, sp, fo, ba, no, en, vs, vf, vg), SM, PM, XM, YM)) H := hP
    have hD : va_D A (lz_W cA ad ((ss, sp, fo, ba, no, en, vs, vf, vg), SM, PM, XM, YM)) := hD
    refine lm_vi (b := ad 1) (As := [.int en, .int (t_xs YM no.toNatClampNeg)]) (rest := [.ref (ad 0)]) (wr := (ma_W cA ad (ss, sp, fo, ba, no, en, vs, vf, vg)) ++ (pl_W cA (fun k => ad (k + 8)) PM) ++ (tm_W cA (fun k => ad (k + 12)) XM) ++ (tm_W cA (fun k => ad (k + 19)) YM)) ⟨hx, hb, hml, hown, hts⟩ hK hP hD hS hA [1, 2, 3, 4, 5, 6, 7] [0, 8, 9, 10, 11, 12, 13, 14, 15, 16, 17, 18, 19, 20, 21, 22, 23, 24, 25] rfl rfl (by decide) (by decide) (by decide) (c_Heap_boundTo l dC dI cA (fun k => ad (k + 1)) _ SM en (t_xs YM no.toNatClampNeg) (by exact he) (by exact ht.2 _ (hp_in_lt hn (by decide)) h11_0) (by exact fun j hj => (hi.1 j hj).2)) (cwV 2 hts (lm_gV m_11_15 m_11_16 m_11_17 m_0_2 m_11_18) rfl rfl rfl (by decide +kernel) ⟨Nat.le_of_ble_eq_true rfl, Nat.le_of_ble_eq_true rfl⟩) (va_recv (q0 := 1) hK hP rfl rfl) lm_bl_no (fun _ _ _ => trivial) hl.1 rfl rfl (Nat.le_of_ble_eq_true rfl) d_LazyMachine_stepAt_100 ⟨Nat.le_of_ble_eq_true rfl, Nat.le_of_ble_eq_true rfl⟩ (fun r100 u100 H locs w100 hP hD hS => ?_)
    obtain ⟨e_r100, w100⟩ := w100
    replace w100 := w100.symm
    subst w100
    have hP : va_P (dC, dI) classes (lz_W cA ad ((ss, sp, fo, ba, no, en, vs, vf, vg), SM, PM, XM, YM)) H := hP.sub [0, 19, 20, 21, 22, 23, 24, 25, 1, 2, 3, 4, 5, 6, 7, 8, 9, 10, 11, 12, 13, 14, 15, 16, 17, 18] rfl
    have hD : va_D A (lz_W cA ad ((ss, sp, fo, ba, no, en, vs, vf, vg), SM, PM, XM, YM)) := hD.sub [0, 19, 20, 21, 22, 23, 24, 25, 1, 2, 3, 4, 5, 6, 7, 8, 9, 10, 11, 12, 13, 14, 15, 16, 17, 18] (by decide) rfl
    refine lm_vi (b := ad 0) (As := [.int r100]) (rest := []) (wr := ([] : va_W)) ⟨hx, hb, hml, hown, hts⟩ hK hP hD hS hA [0, 1, 2, 3, 4, 5, 6, 7, 8, 9, 10, 11, 12, 13, 14, 15, 16, 17, 18, 19, 20, 21, 22, 23, 24, 25] [] rfl rfl (by decide) (by decide) (by decide) (c_LazyMachine_ask l dC dI cA ad _ ((ss, sp, fo, ba, no, en, vs, vf, vg), SM, PM, XM, YM) r100 (by rw [e_r100]; exact hbd h11_0) (by exact hi.2.2.1)) (cwV 1 hts (lm_gV m_10_20 m_10_21 m_19_17 m_0_1 m_10_22) rfl rfl rfl (by decide +kernel) ⟨Nat.le_of_ble_eq_true rfl, Nat.le_of_ble_eq_true rfl⟩) (va_recv (q0 := 0) hK hP rfl rfl) lm_bl_no (fun _ _ _ => trivial) hl.1 rfl rfl (Nat.le_of_ble_eq_true rfl) d_LazyMachine_stepAt_103 ⟨Nat.le_of_ble_eq_true rfl, Nat.le_of_ble_eq_true rfl⟩ (fun r103 u103 H locs w103 hP hD hS => ?_)
    obtain ⟨e_r103, w103⟩ := w103
    have hP : va_P (dC, dI) classes (lz_W cA ad u103) H := hP
    have hD : va_D A (lz_W cA ad u103) := hD
    refine lm_ri (v := r103) hx hb hr hlocks u103 ?_ hP hK hD hS d_LazyMachine_stepAt_106
    subst e_r100 e_r103 w103; unfold ma_at; rw [if_pos h11_0]; exact ⟨rfl, rfl⟩
  by_cases h11_1 : (t_so YM no.toNatClampNeg) = 1
  · refine lv_tableIn (tgt := 107) hx hb d_LazyMachine_stepAt_11 (by rw [h11_1]; decide) (by rw [h11_1]; decide) (by rw [h11_1]; rfl) rfl ?_
    refine lv_aload_n hx hb d_LazyMachine_stepAt_107 rfl (lv_at hl 0 rfl) ?_
    refine lv_iconst (v := 1) hx hb d_LazyMachine_stepAt_108 (by decide) ?_
    refine lv_aload_n hx hb d_LazyMachine_stepAt_109 rfl (lv_at hl 0 rfl) ?_
    refine va_get (D := (dC, dI)) (ci := 0) (v := .int no) (C := R_LazyMachine) (T := F_LazyMachine) (N := 13) hx hb hts (fun q hq => List.mem_cons_of_mem _ (i_LazyMachine q hq)) hown hK hP 0 rfl rfl 8 (by decide) (hts _ (List.mem_cons_of_mem _ m_2_15)) (fun _ h9 => h9) rfl d_LazyMachine_stepAt_110 ?_
    refine lv_aload_n hx hb d_LazyMachine_stepAt_113 rfl (lv_at hl 0 rfl) ?_
    refine va_get (D := (dC, dI)) (ci := 0) (v := .int en) (C := R_LazyMachine) (T := F_LazyMachine) (N := 13) hx hb hts (fun q hq => List.mem_cons_of_mem _ (i_LazyMachine q hq)) hown hK hP 0 rfl rfl 9 (by decide) (hts _ (List.mem_cons_of_mem _ m_2_16)) (fun _ h9 => h9) rfl d_LazyMachine_stepAt_114 ?_
    refine lm_vi (b := ad 0) (As := [.int 1, .int no, .int en]) (rest := []) (wr := ([] : va_W)) ⟨hx, hb, hml, hown, hts⟩ hK hP hD hS hA [0, 1, 2, 3, 4, 5, 6, 7, 8, 9, 10, 11, 12, 13, 14, 15, 16, 17, 18, 19, 20, 21, 22, 23, 24, 25] [] rfl rfl (by decide) (by decide) (by decide) (c_LazyMachine_backWith l dC dI cA ad _ ((ss, sp, fo, ba, no, en, vs, vf, vg), SM, PM, XM, YM) 1 no en ) (cwV 3 hts (lm_gV m_10_7 m_10_8 m_19_14 m_0_1 m_10_9) rfl rfl rfl (by decide +kernel) ⟨Nat.le_of_ble_eq_true rfl, Nat.le_of_ble_eq_true rfl⟩) (va_recv (q0 := 0) hK hP rfl rfl) lm_bl_no (fun _ _ _ => trivial) hl.1 rfl rfl (Nat.le_of_ble_eq_true rfl) d_LazyMachine_stepAt_117 ⟨Nat.le_of_ble_eq_true rfl, Nat.le_of_ble_eq_true rfl⟩ (fun r117 u117 H locs w117 hP hD hS => ?_)
    obtain ⟨e_r117, w117⟩ := w117
    replace e_r117 := e_r117.symm
    subst e_r117
    have w117 : u117 = ((ss, sp, fo, 1, no, en, 1, no, en), SM, PM, XM, YM) := w117
    subst w117
    have hP : va_P (dC, dI) classes (lz_W cA ad ((ss, sp, fo, 1, no, en, 1, no, en), SM, PM, XM, YM)) H := hP
    have hD : va_D A (lz_W cA ad ((ss, sp, fo, 1, no, en, 1, no, en), SM, PM, XM, YM)) := hD
    refine lm_ri (v := 1) hx hb hr hlocks ((ss, sp, fo, 1, no, en, 1, no, en), SM, PM, XM, YM) ?_ hP hK hD hS d_LazyMachine_stepAt_120
    unfold ma_at; rw [if_neg h11_0]; rw [if_pos h11_1]; exact ⟨rfl, rfl⟩
  by_cases h11_2 : (t_so YM no.toNatClampNeg) = 2
  · refine lv_tableIn (tgt := 121) hx hb d_LazyMachine_stepAt_11 (by rw [h11_2]; decide) (by rw [h11_2]; decide) (by rw [h11_2]; rfl) rfl ?_
    refine lv_aload_n hx hb d_LazyMachine_stepAt_121 rfl (lv_at hl 0 rfl) ?_
    refine lm_vi (b := ad 0) (As := []) (rest := []) (wr := ([] : va_W)) ⟨hx, hb, hml, hown, hts⟩ hK hP hD hS hA [0, 1, 2, 3, 4, 5, 6, 7, 8, 9, 10, 11, 12, 13, 14, 15, 16, 17, 18, 19, 20, 21, 22, 23, 24, 25] [] rfl rfl (by decide) (by decide) (by decide) (c_LazyMachine_stepApply l dC dI cA ad _ ((ss, sp, fo, ba, no, en, vs, vf, vg), SM, PM, XM, YM)  (by exact hi) (by exact ht) (by exact hn) (by exact he)) (cwV 0 hts (lm_gV m_11_20 m_11_21 m_19_19 m_0_1 m_11_22) rfl rfl rfl (by decide +kernel) ⟨Nat.le_of_ble_eq_true rfl, Nat.le_of_ble_eq_true rfl⟩) (va_recv (q0 := 0) hK hP rfl rfl) lm_bl_no (fun _ _ _ => trivial) hl.1 rfl rfl (Nat.le_of_ble_eq_true rfl) d_LazyMachine_stepAt_122 ⟨Nat.le_of_ble_eq_true rfl, Nat.le_of_ble_eq_true rfl⟩ (fun r122 u122 H locs w122 hP hD hS => ?_)
    obtain ⟨e_r122, w122⟩ := w122
    have hP : va_P (dC, dI) classes (lz_W cA ad u122) H := hP
    have hD : va_D A (lz_W cA ad u122) := hD
    refine lm_ri (v := r122) hx hb hr hlocks u122 ?_ hP hK hD hS d_LazyMachine_stepAt_125
    subst e_r122 w122; unfold ma_at; rw [if_neg h11_0]; rw [if_neg h11_1]; rw [if_pos h11_2]; exact ⟨rfl, rfl⟩
  by_cases h11_3 : (t_so YM no.toNatClampNeg) = 3
  · refine lv_tableIn (tgt := 126) hx hb d_LazyMachine_stepAt_11 (by rw [h11_3]; decide) (by rw [h11_3]; decide) (by rw [h11_3]; rfl) rfl ?_
    refine lv_aload_n hx hb d_LazyMachine_stepAt_126 rfl (lv_at hl 0 rfl) ?_
    refine lv_iconst (v := 0) hx hb d_LazyMachine_stepAt_127 (by decide) ?_
    refine lv_aload_n hx hb d_LazyMachine_stepAt_128 rfl (lv_at hl 0 rfl) ?_
    refine va_get (D := (dC, dI)) (ci := 0) (v := .ref (ad 19)) (C := R_LazyMachine) (T := F_LazyMachine) (N := 13) hx hb hts (fun q hq => List.mem_cons_of_mem _ (i_LazyMachine q hq)) hown hK hP 0 rfl rfl 3 (by decide) (hts _ (List.mem_cons_of_mem _ m_2_10)) (fun _ h9 => h9) rfl d_LazyMachine_stepAt_129 ?_
    refine lv_aload_n hx hb d_LazyMachine_stepAt_132 rfl (lv_at hl 0 rfl) ?_
    refine va_get (D := (dC, dI)) (ci := 0) (v := .int no) (C := R_LazyMachine) (T := F_LazyMachine) (N := 13) hx hb hts (fun q hq => List.mem_cons_of_mem _ (i_LazyMachine q hq)) hown hK hP 0 rfl rfl 8 (by decide) (hts _ (List.mem_cons_of_mem _ m_2_15)) (fun _ h9 => h9) rfl d_LazyMachine_stepAt_133 ?_
    refine lm_vi (b := ad 19) (As := [.int no]) (rest := [.int 0, .ref (ad 0)]) (wr := (ma_W cA ad (ss, sp, fo, ba, no, en, vs, vf, vg)) ++ (hp_W cA (fun k => ad (k + 1)) SM) ++ (pl_W cA (fun k => ad (k + 8)) PM) ++ (tm_W cA (fun k => ad (k + 12)) XM)) ⟨hx, hb, hml, hown, hts⟩ hK hP hD hS hA [19, 20, 21, 22, 23, 24, 25] [0, 1, 2, 3, 4, 5, 6, 7, 8, 9, 10, 11, 12, 13, 14, 15, 16, 17, 18] rfl rfl (by decide) (by decide) (by decide) (c_Term_x l dC dI cA (fun k => ad (k + 19)) _ YM no (by exact hn)) (cwV 1 hts (lm_gV m_11_11 m_11_12 m_11_13 m_0_4 m_11_14) rfl rfl rfl (by decide +kernel) ⟨Nat.le_of_ble_eq_true rfl, Nat.le_of_ble_eq_true rfl⟩) (va_recv (q0 := 19) hK hP rfl rfl) lm_bl_no (fun _ _ _ => trivial) hl.1 rfl rfl (Nat.le_of_ble_eq_true rfl) d_LazyMachine_stepAt_136 ⟨Nat.le_of_ble_eq_true rfl, Nat.le_of_ble_eq_true rfl⟩ (fun r136 u136 H locs w136 hP hD hS => ?_)
    obtain ⟨e_r136, w136⟩ := w136
    replace e_r136 := e_r136.symm
    subst e_r136
    replace w136 := w136.symm
    subst w136
    have hP : va_P (dC, dI) classes (lz_W cA ad ((ss, sp, fo, ba, no, en, vs, vf, vg), SM, PM, XM, YM)) H := hP
    have hD : va_D A (lz_W cA ad ((ss, sp, fo, ba, no, en, vs, vf, vg), SM, PM, XM, YM)) := hD
    refine lv_iconst (v := -1) hx hb d_LazyMachine_stepAt_139 (by decide) ?_
    refine lm_vi (b := ad 0) (As := [.int 0, .int (t_xs YM no.toNatClampNeg), .int (-1)]) (rest := []) (wr := ([] : va_W)) ⟨hx, hb, hml, hown, hts⟩ hK hP hD hS hA [0, 1, 2, 3, 4, 5, 6, 7, 8, 9, 10, 11, 12, 13, 14, 15, 16, 17, 18, 19, 20, 21, 22, 23, 24, 25] [] rfl rfl (by decide) (by decide) (by decide) (c_LazyMachine_backWith l dC dI cA ad _ ((ss, sp, fo, ba, no, en, vs, vf, vg), SM, PM, XM, YM) 0 (t_xs YM no.toNatClampNeg) (-1) ) (cwV 3 hts (lm_gV m_10_7 m_10_8 m_19_14 m_0_1 m_10_9) rfl rfl rfl (by decide +kernel) ⟨Nat.le_of_ble_eq_true rfl, Nat.le_of_ble_eq_true rfl⟩) (va_recv (q0 := 0) hK hP rfl rfl) lm_bl_no (fun _ _ _ => trivial) hl.1 rfl rfl (Nat.le_of_ble_eq_true rfl) d_LazyMachine_stepAt_140 ⟨Nat.le_of_ble_eq_true rfl, Nat.le_of_ble_eq_true rfl⟩ (fun r140 u140 H locs w140 hP hD hS => ?_)
    obtain ⟨e_r140, w140⟩ := w140
    replace e_r140 := e_r140.symm
    subst e_r140
    have w140 : u140 = ((ss, sp, fo, 1, no, en, 0, (t_xs YM no.toNatClampNeg), (-1)), SM, PM, XM, YM) := w140
    subst w140
    have hP : va_P (dC, dI) classes (lz_W cA ad ((ss, sp, fo, 1, no, en, 0, (t_xs YM no.toNatClampNeg), (-1)), SM, PM, XM, YM)) H := hP
    have hD : va_D A (lz_W cA ad ((ss, sp, fo, 1, no, en, 0, (t_xs YM no.toNatClampNeg), (-1)), SM, PM, XM, YM)) := hD
    refine lm_ri (v := 1) hx hb hr hlocks ((ss, sp, fo, 1, no, en, 0, (t_xs YM no.toNatClampNeg), (-1)), SM, PM, XM, YM) ?_ hP hK hD hS d_LazyMachine_stepAt_143
    unfold ma_at; rw [if_neg h11_0]; rw [if_neg h11_1]; rw [if_neg h11_2]; rw [if_pos h11_3]; exact ⟨rfl, rfl⟩
  by_cases h11_4 : (t_so YM no.toNatClampNeg) = 4
  · refine lv_tableIn (tgt := 189) hx hb d_LazyMachine_stepAt_11 (by rw [h11_4]; decide) (by rw [h11_4]; decide) (by rw [h11_4]; rfl) rfl ?_
    refine lv_aload_n hx hb d_LazyMachine_stepAt_189 rfl (lv_at hl 0 rfl) ?_
    refine lv_iconst (v := 2) hx hb d_LazyMachine_stepAt_190 (by decide) ?_
    refine lv_aload_n hx hb d_LazyMachine_stepAt_191 rfl (lv_at hl 0 rfl) ?_
    refine va_get (D := (dC, dI)) (ci := 0) (v := .int no) (C := R_LazyMachine) (T := F_LazyMachine) (N := 13) hx hb hts (fun q hq => List.mem_cons_of_mem _ (i_LazyMachine q hq)) hown hK hP 0 rfl rfl 8 (by decide) (hts _ (List.mem_cons_of_mem _ m_2_15)) (fun _ h9 => h9) rfl d_LazyMachine_stepAt_192 ?_
    refine lv_aload_n hx hb d_LazyMachine_stepAt_195 rfl (lv_at hl 0 rfl) ?_
    refine va_get (D := (dC, dI)) (ci := 0) (v := .int en) (C := R_LazyMachine) (T := F_LazyMachine) (N := 13) hx hb hts (fun q hq => List.mem_cons_of_mem _ (i_LazyMachine q hq)) hown hK hP 0 rfl rfl 9 (by decide) (hts _ (List.mem_cons_of_mem _ m_2_16)) (fun _ h9 => h9) rfl d_LazyMachine_stepAt_196 ?_
    refine lm_vi (b := ad 0) (As := [.int 2, .int no, .int en]) (rest := []) (wr := ([] : va_W)) ⟨hx, hb, hml, hown, hts⟩ hK hP hD hS hA [0, 1, 2, 3, 4, 5, 6, 7, 8, 9, 10, 11, 12, 13, 14, 15, 16, 17, 18, 19, 20, 21, 22, 23, 24, 25] [] rfl rfl (by decide) (by decide) (by decide) (c_LazyMachine_stepUnder l dC dI cA ad _ ((ss, sp, fo, ba, no, en, vs, vf, vg), SM, PM, XM, YM) 2 no en (by exact hi.2.2.1) (by exact hn)) (cwV 3 hts (lm_gV m_12_5 m_12_6 m_19_22 m_0_1 m_12_7) rfl rfl rfl (by decide +kernel) ⟨Nat.le_of_ble_eq_true rfl, Nat.le_of_ble_eq_true rfl⟩) (va_recv (q0 := 0) hK hP rfl rfl) lm_bl_no (fun _ _ _ => trivial) hl.1 rfl rfl (Nat.le_of_ble_eq_true rfl) d_LazyMachine_stepAt_199 ⟨Nat.le_of_ble_eq_true rfl, Nat.le_of_ble_eq_true rfl⟩ (fun r199 u199 H locs w199 hP hD hS => ?_)
    obtain ⟨e_r199, w199⟩ := w199
    have hP : va_P (dC, dI) classes (lz_W cA ad u199) H := hP
    have hD : va_D A (lz_W cA ad u199) := hD
    refine lm_ri (v := r199) hx hb hr hlocks u199 ?_ hP hK hD hS d_LazyMachine_stepAt_202
    subst e_r199 w199; unfold ma_at; rw [if_neg h11_0]; rw [if_neg h11_1]; rw [if_neg h11_2]; rw [if_neg h11_3]; rw [if_neg (by rw [h11_4]; decide)]; rw [if_neg (by rw [h11_4]; decide)]; rw [if_neg (by rw [h11_4]; decide)]; rw [if_neg (by rw [h11_4]; decide)]; rw [if_neg (by rw [h11_4]; decide)]; rw [if_neg (by rw [h11_4]; decide)]; exact ⟨rfl, rfl⟩
  by_cases h11_5 : (t_so YM no.toNatClampNeg) = 5
  · refine lv_tableIn (tgt := 189) hx hb d_LazyMachine_stepAt_11 (by rw [h11_5]; decide) (by rw [h11_5]; decide) (by rw [h11_5]; rfl) rfl ?_
    refine lv_aload_n hx hb d_LazyMachine_stepAt_189 rfl (lv_at hl 0 rfl) ?_
    refine lv_iconst (v := 2) hx hb d_LazyMachine_stepAt_190 (by decide) ?_
    refine lv_aload_n hx hb d_LazyMachine_stepAt_191 rfl (lv_at hl 0 rfl) ?_
    refine va_get (D := (dC, dI)) (ci := 0) (v := .int no) (C := R_LazyMachine) (T := F_LazyMachine) (N := 13) hx hb hts (fun q hq => List.mem_cons_of_mem _ (i_LazyMachine q hq)) hown hK hP 0 rfl rfl 8 (by decide) (hts _ (List.mem_cons_of_mem _ m_2_15)) (fun _ h9 => h9) rfl d_LazyMachine_stepAt_192 ?_
    refine lv_aload_n hx hb d_LazyMachine_stepAt_195 rfl (lv_at hl 0 rfl) ?_
    refine va_get (D := (dC, dI)) (ci := 0) (v := .int en) (C := R_LazyMachine) (T := F_LazyMachine) (N := 13) hx hb hts (fun q hq => List.mem_cons_of_mem _ (i_LazyMachine q hq)) hown hK hP 0 rfl rfl 9 (by decide) (hts _ (List.mem_cons_of_mem _ m_2_16)) (fun _ h9 => h9) rfl d_LazyMachine_stepAt_196 ?_
    refine lm_vi (b := ad 0) (As := [.int 2, .int no, .int en]) (rest := []) (wr := ([] : va_W)) ⟨hx, hb, hml, hown, hts⟩ hK hP hD hS hA [0, 1, 2, 3, 4, 5, 6, 7, 8, 9, 10, 11, 12, 13, 14, 15, 16, 17, 18, 19, 20, 21, 22, 23, 24, 25] [] rfl rfl (by decide) (by decide) (by decide) (c_LazyMachine_stepUnder l dC dI cA ad _ ((ss, sp, fo, ba, no, en, vs, vf, vg), SM, PM, XM, YM) 2 no en (by exact hi.2.2.1) (by exact hn)) (cwV 3 hts (lm_gV m_12_5 m_12_6 m_19_22 m_0_1 m_12_7) rfl rfl rfl (by decide +kernel) ⟨Nat.le_of_ble_eq_true rfl, Nat.le_of_ble_eq_true rfl⟩) (va_recv (q0 := 0) hK hP rfl rfl) lm_bl_no (fun _ _ _ => trivial) hl.1 rfl rfl (Nat.le_of_ble_eq_true rfl) d_LazyMachine_stepAt_199 ⟨Nat.le_of_ble_eq_true rfl, Nat.le_of_ble_eq_true rfl⟩ (fun r199 u199 H locs w199 hP hD hS => ?_)
    obtain ⟨e_r199, w199⟩ := w199
    have hP : va_P (dC, dI) classes (lz_W cA ad u199) H := hP
    have hD : va_D A (lz_W cA ad u199) := hD
    refine lm_ri (v := r199) hx hb hr hlocks u199 ?_ hP hK hD hS d_LazyMachine_stepAt_202
    subst e_r199 w199; unfold ma_at; rw [if_neg h11_0]; rw [if_neg h11_1]; rw [if_neg h11_2]; rw [if_neg h11_3]; rw [if_neg (by rw [h11_5]; decide)]; rw [if_neg (by rw [h11_5]; decide)]; rw [if_neg (by rw [h11_5]; decide)]; rw [if_neg (by rw [h11_5]; decide)]; rw [if_neg (by rw [h11_5]; decide)]; rw [if_neg (by rw [h11_5]; decide)]; exact ⟨rfl, rfl⟩
  by_cases h11_6 : (t_so YM no.toNatClampNeg) = 6
  · refine lv_tableIn (tgt := 189) hx hb d_LazyMachine_stepAt_11 (by rw [h11_6]; decide) (by rw [h11_6]; decide) (by rw [h11_6]; rfl) rfl ?_
    refine lv_aload_n hx hb d_LazyMachine_stepAt_189 rfl (lv_at hl 0 rfl) ?_
    refine lv_iconst (v := 2) hx hb d_LazyMachine_stepAt_190 (by decide) ?_
    refine lv_aload_n hx hb d_LazyMachine_stepAt_191 rfl (lv_at hl 0 rfl) ?_
    refine va_get (D := (dC, dI)) (ci := 0) (v := .int no) (C := R_LazyMachine) (T := F_LazyMachine) (N := 13) hx hb hts (fun q hq => List.mem_cons_of_mem _ (i_LazyMachine q hq)) hown hK hP 0 rfl rfl 8 (by decide) (hts _ (List.mem_cons_of_mem _ m_2_15)) (fun _ h9 => h9) rfl d_LazyMachine_stepAt_192 ?_
    refine lv_aload_n hx hb d_LazyMachine_stepAt_195 rfl (lv_at hl 0 rfl) ?_
    refine va_get (D := (dC, dI)) (ci := 0) (v := .int en) (C := R_LazyMachine) (T := F_LazyMachine) (N := 13) hx hb hts (fun q hq => List.mem_cons_of_mem _ (i_LazyMachine q hq)) hown hK hP 0 rfl rfl 9 (by decide) (hts _ (List.mem_cons_of_mem _ m_2_16)) (fun _ h9 => h9) rfl d_LazyMachine_stepAt_196 ?_
    refine lm_vi (b := ad 0) (As := [.int 2, .int no, .int en]) (rest := []) (wr := ([] : va_W)) ⟨hx, hb, hml, hown, hts⟩ hK hP hD hS hA [0, 1, 2, 3, 4, 5, 6, 7, 8, 9, 10, 11, 12, 13, 14, 15, 16, 17, 18, 19, 20, 21, 22, 23, 24, 25] [] rfl rfl (by decide) (by decide) (by decide) (c_LazyMachine_stepUnder l dC dI cA ad _ ((ss, sp, fo, ba, no, en, vs, vf, vg), SM, PM, XM, YM) 2 no en (by exact hi.2.2.1) (by exact hn)) (cwV 3 hts (lm_gV m_12_5 m_12_6 m_19_22 m_0_1 m_12_7) rfl rfl rfl (by decide +kernel) ⟨Nat.le_of_ble_eq_true rfl, Nat.le_of_ble_eq_true rfl⟩) (va_recv (q0 := 0) hK hP rfl rfl) lm_bl_no (fun _ _ _ => trivial) hl.1 rfl rfl (Nat.le_of_ble_eq_true rfl) d_LazyMachine_stepAt_199 ⟨Nat.le_of_ble_eq_true rfl, Nat.le_of_ble_eq_true rfl⟩ (fun r199 u199 H locs w199 hP hD hS => ?_)
    obtain ⟨e_r199, w199⟩ := w199
    have hP : va_P (dC, dI) classes (lz_W cA ad u199) H := hP
    have hD : va_D A (lz_W cA ad u199) := hD
    refine lm_ri (v := r199) hx hb hr hlocks u199 ?_ hP hK hD hS d_LazyMachine_stepAt_202
    subst e_r199 w199; unfold ma_at; rw [if_neg h11_0]; rw [if_neg h11_1]; rw [if_neg h11_2]; rw [if_neg h11_3]; rw [if_neg (by rw [h11_6]; decide)]; rw [if_neg (by rw [h11_6]; decide)]; rw [if_neg (by rw [h11_6]; decide)]; rw [if_neg (by rw [h11_6]; decide)]; rw [if_neg (by rw [h11_6]; decide)]; rw [if_neg (by rw [h11_6]; decide)]; exact ⟨rfl, rfl⟩
  by_cases h11_7 : (t_so YM no.toNatClampNeg) = 7
  · refine lv_tableIn (tgt := 189) hx hb d_LazyMachine_stepAt_11 (by rw [h11_7]; decide) (by rw [h11_7]; decide) (by rw [h11_7]; rfl) rfl ?_
    refine lv_aload_n hx hb d_LazyMachine_stepAt_189 rfl (lv_at hl 0 rfl) ?_
    refine lv_iconst (v := 2) hx hb d_LazyMachine_stepAt_190 (by decide) ?_
    refine lv_aload_n hx hb d_LazyMachine_stepAt_191 rfl (lv_at hl 0 rfl) ?_
    refine va_get (D := (dC, dI)) (ci := 0) (v := .int no) (C := R_LazyMachine) (T := F_LazyMachine) (N := 13) hx hb hts (fun q hq => List.mem_cons_of_mem _ (i_LazyMachine q hq)) hown hK hP 0 rfl rfl 8 (by decide) (hts _ (List.mem_cons_of_mem _ m_2_15)) (fun _ h9 => h9) rfl d_LazyMachine_stepAt_192 ?_
    refine lv_aload_n hx hb d_LazyMachine_stepAt_195 rfl (lv_at hl 0 rfl) ?_
    refine va_get (D := (dC, dI)) (ci := 0) (v := .int en) (C := R_LazyMachine) (T := F_LazyMachine) (N := 13) hx hb hts (fun q hq => List.mem_cons_of_mem _ (i_LazyMachine q hq)) hown hK hP 0 rfl rfl 9 (by decide) (hts _ (List.mem_cons_of_mem _ m_2_16)) (fun _ h9 => h9) rfl d_LazyMachine_stepAt_196 ?_
    refine lm_vi (b := ad 0) (As := [.int 2, .int no, .int en]) (rest := []) (wr := ([] : va_W)) ⟨hx, hb, hml, hown, hts⟩ hK hP hD hS hA [0, 1, 2, 3, 4, 5, 6, 7, 8, 9, 10, 11, 12, 13, 14, 15, 16, 17, 18, 19, 20, 21, 22, 23, 24, 25] [] rfl rfl (by decide) (by decide) (by decide) (c_LazyMachine_stepUnder l dC dI cA ad _ ((ss, sp, fo, ba, no, en, vs, vf, vg), SM, PM, XM, YM) 2 no en (by exact hi.2.2.1) (by exact hn)) (cwV 3 hts (lm_gV m_12_5 m_12_6 m_19_22 m_0_1 m_12_7) rfl rfl rfl (by decide +kernel) ⟨Nat.le_of_ble_eq_true rfl, Nat.le_of_ble_eq_true rfl⟩) (va_recv (q0 := 0) hK hP rfl rfl) lm_bl_no (fun _ _ _ => trivial) hl.1 rfl rfl (Nat.le_of_ble_eq_true rfl) d_LazyMachine_stepAt_199 ⟨Nat.le_of_ble_eq_true rfl, Nat.le_of_ble_eq_true rfl⟩ (fun r199 u199 H locs w199 hP hD hS => ?_)
    obtain ⟨e_r199, w199⟩ := w199
    have hP : va_P (dC, dI) classes (lz_W cA ad u199) H := hP
    have hD : va_D A (lz_W cA ad u199) := hD
    refine lm_ri (v := r199) hx hb hr hlocks u199 ?_ hP hK hD hS d_LazyMachine_stepAt_202
    subst e_r199 w199; unfold ma_at; rw [if_neg h11_0]; rw [if_neg h11_1]; rw [if_neg h11_2]; rw [if_neg h11_3]; rw [if_neg (by rw [h11_7]; decide)]; rw [if_neg (by rw [h11_7]; decide)]; rw [if_neg (by rw [h11_7]; decide)]; rw [if_neg (by rw [h11_7]; decide)]; rw [if_neg (by rw [h11_7]; decide)]; rw [if_neg (by rw [h11_7]; decide)]; exact ⟨rfl, rfl⟩
  by_cases h11_8 : (t_so YM no.toNatClampNeg) = 8
  · refine lv_tableIn (tgt := 144) hx hb d_LazyMachine_stepAt_11 (by rw [h11_8]; decide) (by rw [h11_8]; decide) (by rw [h11_8]; rfl) rfl ?_
    refine lv_aload_n hx hb d_LazyMachine_stepAt_144 rfl (lv_at hl 0 rfl) ?_
    refine lv_iconst (v := 4) hx hb d_LazyMachine_stepAt_145 (by decide) ?_
    refine lv_aload_n hx hb d_LazyMachine_stepAt_146 rfl (lv_at hl 0 rfl) ?_
    refine va_get (D := (dC, dI)) (ci := 0) (v := .int no) (C := R_LazyMachine) (T := F_LazyMachine) (N := 13) hx hb hts (fun q hq => List.mem_cons_of_mem _ (i_LazyMachine q hq)) hown hK hP 0 rfl rfl 8 (by decide) (hts _ (List.mem_cons_of_mem _ m_2_15)) (fun _ h9 => h9) rfl d_LazyMachine_stepAt_147 ?_
    refine lv_aload_n hx hb d_LazyMachine_stepAt_150 rfl (lv_at hl 0 rfl) ?_
    refine va_get (D := (dC, dI)) (ci := 0) (v := .int en) (C := R_LazyMachine) (T := F_LazyMachine) (N := 13) hx hb hts (fun q hq => List.mem_cons_of_mem _ (i_LazyMachine q hq)) hown hK hP 0 rfl rfl 9 (by decide) (hts _ (List.mem_cons_of_mem _ m_2_16)) (fun _ h9 => h9) rfl d_LazyMachine_stepAt_151 ?_
    refine lm_vi (b := ad 0) (As := [.int 4, .int no, .int en]) (rest := []) (wr := ([] : va_W)) ⟨hx, hb, hml, hown, hts⟩ hK hP hD hS hA [0, 1, 2, 3, 4, 5, 6, 7, 8, 9, 10, 11, 12, 13, 14, 15, 16, 17, 18, 19, 20, 21, 22, 23, 24, 25] [] rfl rfl (by decide) (by decide) (by decide) (c_LazyMachine_stepUnder l dC dI cA ad _ ((ss, sp, fo, ba, no, en, vs, vf, vg), SM, PM, XM, YM) 4 no en (by exact hi.2.2.1) (by exact hn)) (cwV 3 hts (lm_gV m_12_5 m_12_6 m_19_22 m_0_1 m_12_7) rfl rfl rfl (by decide +kernel) ⟨Nat.le_of_ble_eq_true rfl, Nat.le_of_ble_eq_true rfl⟩) (va_recv (q0 := 0) hK hP rfl rfl) lm_bl_no (fun _ _ _ => trivial) hl.1 rfl rfl (Nat.le_of_ble_eq_true rfl) d_LazyMachine_stepAt_154 ⟨Nat.le_of_ble_eq_true rfl, Nat.le_of_ble_eq_true rfl⟩ (fun r154 u154 H locs w154 hP hD hS => ?_)
    obtain ⟨e_r154, w154⟩ := w154
    have hP : va_P (dC, dI) classes (lz_W cA ad u154) H := hP
    have hD : va_D A (lz_W cA ad u154) := hD
    refine lm_ri (v := r154) hx hb hr hlocks u154 ?_ hP hK hD hS d_LazyMachine_stepAt_157
    subst e_r154 w154; unfold ma_at; rw [if_neg h11_0]; rw [if_neg h11_1]; rw [if_neg h11_2]; rw [if_neg h11_3]; rw [if_pos h11_8]; exact ⟨rfl, rfl⟩
  by_cases h11_9 : (t_so YM no.toNatClampNeg) = 9
  · refine lv_tableIn (tgt := 158) hx hb d_LazyMachine_stepAt_11 (by rw [h11_9]; decide) (by rw [h11_9]; decide) (by rw [h11_9]; rfl) rfl ?_
    refine lv_aload_n hx hb d_LazyMachine_stepAt_158 rfl (lv_at hl 0 rfl) ?_
    refine lm_vi (b := ad 0) (As := []) (rest := []) (wr := ([] : va_W)) ⟨hx, hb, hml, hown, hts⟩ hK hP hD hS hA [0, 1, 2, 3, 4, 5, 6, 7, 8, 9, 10, 11, 12, 13, 14, 15, 16, 17, 18, 19, 20, 21, 22, 23, 24, 25] [] rfl rfl (by decide) (by decide) (by decide) (c_LazyMachine_stepFix l dC dI cA ad _ ((ss, sp, fo, ba, no, en, vs, vf, vg), SM, PM, XM, YM)  (by exact hi) (by exact hn)) (cwV 0 hts (lm_gV m_12_8 m_12_9 m_19_23 m_0_1 m_12_10) rfl rfl rfl (by decide +kernel) ⟨Nat.le_of_ble_eq_true rfl, Nat.le_of_ble_eq_true rfl⟩) (va_recv (q0 := 0) hK hP rfl rfl) lm_bl_no (fun _ _ _ => trivial) hl.1 rfl rfl (Nat.le_of_ble_eq_true rfl) d_LazyMachine_stepAt_159 ⟨Nat.le_of_ble_eq_true rfl, Nat.le_of_ble_eq_true rfl⟩ (fun r159 u159 H locs w159 hP hD hS => ?_)
    obtain ⟨e_r159, w159⟩ := w159
    have hP : va_P (dC, dI) classes (lz_W cA ad u159) H := hP
    have hD : va_D A (lz_W cA ad u159) := hD
    refine lm_ri (v := r159) hx hb hr hlocks u159 ?_ hP hK hD hS d_LazyMachine_stepAt_162
    subst e_r159 w159; unfold ma_at; rw [if_neg h11_0]; rw [if_neg h11_1]; rw [if_neg h11_2]; rw [if_neg h11_3]; rw [if_neg h11_8]; rw [if_pos h11_9]; exact ⟨rfl, rfl⟩
  by_cases h11_10 : (t_so YM no.toNatClampNeg) = 10
  · refine lv_tableIn (tgt := 163) hx hb d_LazyMachine_stepAt_11 (by rw [h11_10]; decide) (by rw [h11_10]; decide) (by rw [h11_10]; rfl) rfl ?_
    refine lv_aload_n hx hb d_LazyMachine_stepAt_163 rfl (lv_at hl 0 rfl) ?_
    refine lm_vi (b := ad 0) (As := []) (rest := []) (wr := ([] : va_W)) ⟨hx, hb, hml, hown, hts⟩ hK hP hD hS hA [0, 1, 2, 3, 4, 5, 6, 7, 8, 9, 10, 11, 12, 13, 14, 15, 16, 17, 18, 19, 20, 21, 22, 23, 24, 25] [] rfl rfl (by decide) (by decide) (by decide) (c_LazyMachine_stepLet l dC dI cA ad _ ((ss, sp, fo, ba, no, en, vs, vf, vg), SM, PM, XM, YM)  (by exact hi) (by exact ht) (by exact hn) (by exact he)) (cwV 0 hts (lm_gV m_12_11 m_12_12 m_20_0 m_0_1 m_12_13) rfl rfl rfl (by decide +kernel) ⟨Nat.le_of_ble_eq_true rfl, Nat.le_of_ble_eq_true rfl⟩) (va_recv (q0 := 0) hK hP rfl rfl) lm_bl_no (fun _ _ _ => trivial) hl.1 rfl rfl (Nat.le_of_ble_eq_true rfl) d_LazyMachine_stepAt_164 ⟨Nat.le_of_ble_eq_true rfl, Nat.le_of_ble_eq_true rfl⟩ (fun r164 u164 H locs w164 hP hD hS => ?_)
    obtain ⟨e_r164, w164⟩ := w164
    have hP : va_P (dC, dI) classes (lz_W cA ad u164) H := hP
    have hD : va_D A (lz_W cA ad u164) := hD
    refine lm_ri (v := r164) hx hb hr hlocks u164 ?_ hP hK hD hS d_LazyMachine_stepAt_167
    subst e_r164 w164; unfold ma_at; rw [if_neg h11_0]; rw [if_neg h11_1]; rw [if_neg h11_2]; rw [if_neg h11_3]; rw [if_neg h11_8]; rw [if_neg h11_9]; rw [if_pos h11_10]; exact ⟨rfl, rfl⟩
  by_cases h11_11 : (t_so YM no.toNatClampNeg) = 11
  · refine lv_tableIn (tgt := 168) hx hb d_LazyMachine_stepAt_11 (by rw [h11_11]; decide) (by rw [h11_11]; decide) (by rw [h11_11]; rfl) rfl ?_
    refine lv_aload_n hx hb d_LazyMachine_stepAt_168 rfl (lv_at hl 0 rfl) ?_
    refine lm_vi (b := ad 0) (As := []) (rest := []) (wr := ([] : va_W)) ⟨hx, hb, hml, hown, hts⟩ hK hP hD hS hA [0, 1, 2, 3, 4, 5, 6, 7, 8, 9, 10, 11, 12, 13, 14, 15, 16, 17, 18, 19, 20, 21, 22, 23, 24, 25] [] rfl rfl (by decide) (by decide) (by decide) (c_LazyMachine_stepPair l dC dI cA ad _ ((ss, sp, fo, ba, no, en, vs, vf, vg), SM, PM, XM, YM)  (by exact hi) (by exact ht) (by exact hn) (by exact he)) (cwV 0 hts (lm_gV m_12_14 m_12_15 m_20_1 m_0_1 m_12_16) rfl rfl rfl (by decide +kernel) ⟨Nat.le_of_ble_eq_true rfl, Nat.le_of_ble_eq_true rfl⟩) (va_recv (q0 := 0) hK hP rfl rfl) lm_bl_no (fun _ _ _ => trivial) hl.1 rfl rfl (Nat.le_of_ble_eq_true rfl) d_LazyMachine_stepAt_169 ⟨Nat.le_of_ble_eq_true rfl, Nat.le_of_ble_eq_true rfl⟩ (fun r169 u169 H locs w169 hP hD hS => ?_)
    obtain ⟨e_r169, w169⟩ := w169
    have hP : va_P (dC, dI) classes (lz_W cA ad u169) H := hP
    have hD : va_D A (lz_W cA ad u169) := hD
    refine lm_ri (v := r169) hx hb hr hlocks u169 ?_ hP hK hD hS d_LazyMachine_stepAt_172
    subst e_r169 w169; unfold ma_at; rw [if_neg h11_0]; rw [if_neg h11_1]; rw [if_neg h11_2]; rw [if_neg h11_3]; rw [if_neg h11_8]; rw [if_neg h11_9]; rw [if_neg h11_10]; rw [if_pos h11_11]; exact ⟨rfl, rfl⟩
  by_cases h11_12 : (t_so YM no.toNatClampNeg) = 12
  · refine lv_tableIn (tgt := 173) hx hb d_LazyMachine_stepAt_11 (by rw [h11_12]; decide) (by rw [h11_12]; decide) (by rw [h11_12]; rfl) rfl ?_
    refine lv_aload_n hx hb d_LazyMachine_stepAt_173 rfl (lv_at hl 0 rfl) ?_
    refine lv_iconst (v := 5) hx hb d_LazyMachine_stepAt_174 (by decide) ?_
    refine lv_iconst (v := 0) hx hb d_LazyMachine_stepAt_175 (by decide) ?_
    refine lv_iconst (v := -1) hx hb d_LazyMachine_stepAt_176 (by decide) ?_
    refine lm_vi (b := ad 0) (As := [.int 5, .int 0, .int (-1)]) (rest := []) (wr := ([] : va_W)) ⟨hx, hb, hml, hown, hts⟩ hK hP hD hS hA [0, 1, 2, 3, 4, 5, 6, 7, 8, 9, 10, 11, 12, 13, 14, 15, 16, 17, 18, 19, 20, 21, 22, 23, 24, 25] [] rfl rfl (by decide) (by decide) (by decide) (c_LazyMachine_stepUnder l dC dI cA ad _ ((ss, sp, fo, ba, no, en, vs, vf, vg), SM, PM, XM, YM) 5 0 (-1) (by exact hi.2.2.1) (by exact hn)) (cwV 3 hts (lm_gV m_12_5 m_12_6 m_19_22 m_0_1 m_12_7) rfl rfl rfl (by decide +kernel) ⟨Nat.le_of_ble_eq_true rfl, Nat.le_of_ble_eq_true rfl⟩) (va_recv (q0 := 0) hK hP rfl rfl) lm_bl_no (fun _ _ _ => trivial) hl.1 rfl rfl (Nat.le_of_ble_eq_true rfl) d_LazyMachine_stepAt_177 ⟨Nat.le_of_ble_eq_true rfl, Nat.le_of_ble_eq_true rfl⟩ (fun r177 u177 H locs w177 hP hD hS => ?_)
    obtain ⟨e_r177, w177⟩ := w177
    have hP : va_P (dC, dI) classes (lz_W cA ad u177) H := hP
    have hD : va_D A (lz_W cA ad u177) := hD
    refine lm_ri (v := r177) hx hb hr hlocks u177 ?_ hP hK hD hS d_LazyMachine_stepAt_180
    subst e_r177 w177; unfold ma_at; rw [if_neg h11_0]; rw [if_neg h11_1]; rw [if_neg h11_2]; rw [if_neg h11_3]; rw [if_neg h11_8]; rw [if_neg h11_9]; rw [if_neg h11_10]; rw [if_neg h11_11]; rw [if_pos h11_12]; exact ⟨rfl, rfl⟩
  by_cases h11_13 : (t_so YM no.toNatClampNeg) = 13
  · refine lv_tableIn (tgt := 181) hx hb d_LazyMachine_stepAt_11 (by rw [h11_13]; decide) (by rw [h11_13]; decide) (by rw [h11_13]; rfl) rfl ?_
    refine lv_aload_n hx hb d_LazyMachine_stepAt_181 rfl (lv_at hl 0 rfl) ?_
    refine lv_iconst (v := 5) hx hb d_LazyMachine_stepAt_182 (by decide) ?_
    refine lv_iconst (v := 1) hx hb d_LazyMachine_stepAt_183 (by decide) ?_
    refine lv_iconst (v := -1) hx hb d_LazyMachine_stepAt_184 (by decide) ?_
    refine lm_vi (b := ad 0) (As := [.int 5, .int 1, .int (-1)]) (rest := []) (wr := ([] : va_W)) ⟨hx, hb, hml, hown, hts⟩ hK hP hD hS hA [0, 1, 2, 3, 4, 5, 6, 7, 8, 9, 10, 11, 12, 13, 14, 15, 16, 17, 18, 19, 20, 21, 22, 23, 24, 25] [] rfl rfl (by decide) (by decide) (by decide) (c_LazyMachine_stepUnder l dC dI cA ad _ ((ss, sp, fo, ba, no, en, vs, vf, vg), SM, PM, XM, YM) 5 1 (-1) (by exact hi.2.2.1) (by exact hn)) (cwV 3 hts (lm_gV m_12_5 m_12_6 m_19_22 m_0_1 m_12_7) rfl rfl rfl (by decide +kernel) ⟨Nat.le_of_ble_eq_true rfl, Nat.le_of_ble_eq_true rfl⟩) (va_recv (q0 := 0) hK hP rfl rfl) lm_bl_no (fun _ _ _ => trivial) hl.1 rfl rfl (Nat.le_of_ble_eq_true rfl) d_LazyMachine_stepAt_185 ⟨Nat.le_of_ble_eq_true rfl, Nat.le_of_ble_eq_true rfl⟩ (fun r185 u185 H locs w185 hP hD hS => ?_)
    obtain ⟨e_r185, w185⟩ := w185
    have hP : va_P (dC, dI) classes (lz_W cA ad u185) H := hP
    have hD : va_D A (lz_W cA ad u185) := hD
    refine lm_ri (v := r185) hx hb hr hlocks u185 ?_ hP hK hD hS d_LazyMachine_stepAt_188
    subst e_r185 w185; unfold ma_at; rw [if_neg h11_0]; rw [if_neg h11_1]; rw [if_neg h11_2]; rw [if_neg h11_3]; rw [if_neg h11_8]; rw [if_neg h11_9]; rw [if_neg h11_10]; rw [if_neg h11_11]; rw [if_neg h11_12]; rw [if_pos h11_13]; exact ⟨rfl, rfl⟩
  have qh11_0 := lv_neT (a := 0) h11_0 (by decide)
  have qh11_1 := lv_neT (a := 1) h11_1 (by decide)
  have qh11_2 := lv_neT (a := 2) h11_2 (by decide)
  have qh11_3 := lv_neT (a := 3) h11_3 (by decide)
  have qh11_4 := lv_neT (a := 4) h11_4 (by decide)
  have qh11_5 := lv_neT (a := 5) h11_5 (by decide)
  have qh11_6 := lv_neT (a := 6) h11_6 (by decide)
  have qh11_7 := lv_neT (a := 7) h11_7 (by decide)
  have qh11_8 := lv_neT (a := 8) h11_8 (by decide)
  have qh11_9 := lv_neT (a := 9) h11_9 (by decide)
  have qh11_10 := lv_neT (a := 10) h11_10 (by decide)
  have qh11_11 := lv_neT (a := 11) h11_11 (by decide)
  have qh11_12 := lv_neT (a := 12) h11_12 (by decide)
  have qh11_13 := lv_neT (a := 13) h11_13 (by decide)
  refine lv_tableOut (tgt := 189) hx hb d_LazyMachine_stepAt_11 (by omega) rfl ?_
  refine lv_aload_n hx hb d_LazyMachine_stepAt_189 rfl (lv_at hl 0 rfl) ?_
  refine lv_iconst (v := 2) hx hb d_LazyMachine_stepAt_190 (by decide) ?_
  refine lv_aload_n hx hb d_LazyMachine_stepAt_191 rfl (lv_at hl 0 rfl) ?_
  refine va_get (D := (dC, dI)) (ci := 0) (v := .int no) (C := R_LazyMachine) (T := F_LazyMachine) (N := 13) hx hb hts (fun q hq => List.mem_cons_of_mem _ (i_LazyMachine q hq)) hown hK hP 0 rfl rfl 8 (by decide) (hts _ (List.mem_cons_of_mem _ m_2_15)) (fun _ h9 => h9) rfl d_LazyMachine_stepAt_192 ?_
  refine lv_aload_n hx hb d_LazyMachine_stepAt_195 rfl (lv_at hl 0 rfl) ?_
  refine va_get (D := (dC, dI)) (ci := 0) (v := .int en) (C := R_LazyMachine) (T := F_LazyMachine) (N := 13) hx hb hts (fun q hq => List.mem_cons_of_mem _ (i_LazyMachine q hq)) hown hK hP 0 rfl rfl 9 (by decide) (hts _ (List.mem_cons_of_mem _ m_2_16)) (fun _ h9 => h9) rfl d_LazyMachine_stepAt_196 ?_
  refine lm_vi (b := ad 0) (As := [.int 2, .int no, .int en]) (rest := []) (wr := ([] : va_W)) ⟨hx, hb, hml, hown, hts⟩ hK hP hD hS hA [0, 1, 2, 3, 4, 5, 6, 7, 8, 9, 10, 11, 12, 13, 14, 15, 16, 17, 18, 19, 20, 21, 22, 23, 24, 25] [] rfl rfl (by decide) (by decide) (by decide) (c_LazyMachine_stepUnder l dC dI cA ad _ ((ss, sp, fo, ba, no, en, vs, vf, vg), SM, PM, XM, YM) 2 no en (by exact hi.2.2.1) (by exact hn)) (cwV 3 hts (lm_gV m_12_5 m_12_6 m_19_22 m_0_1 m_12_7) rfl rfl rfl (by decide +kernel) ⟨Nat.le_of_ble_eq_true rfl, Nat.le_of_ble_eq_true rfl⟩) (va_recv (q0 := 0) hK hP rfl rfl) lm_bl_no (fun _ _ _ => trivial) hl.1 rfl rfl (Nat.le_of_ble_eq_true rfl) d_LazyMachine_stepAt_199 ⟨Nat.le_of_ble_eq_true rfl, Nat.le_of_ble_eq_true rfl⟩ (fun r199 u199 H locs w199 hP hD hS => ?_)
  obtain ⟨e_r199, w199⟩ := w199
  have hP : va_P (dC, dI) classes (lz_W cA ad u199) H := hP
  have hD : va_D A (lz_W cA ad u199) := hD
  refine lm_ri (v := r199) hx hb hr hlocks u199 ?_ hP hK hD hS d_LazyMachine_stepAt_202
  subst e_r199 w199; unfold ma_at; rw [if_neg h11_0]; rw [if_neg h11_1]; rw [if_neg h11_2]; rw [if_neg h11_3]; rw [if_neg h11_8]; rw [if_neg h11_9]; rw [if_neg h11_10]; rw [if_neg h11_11]; rw [if_neg h11_12]; rw [if_neg h11_13]; exact ⟨rfl, rfl⟩
set_option maxHeartbeats 4000000 in
set_option maxRecDepth 100000 in
theorem c_LazyMachine_stepBack (l : Launch) (dC : Nat → ClassId) (dI : Nat → Nat → Nat) (cA : ClassId)  (ad : Nat → Nat) (sz : Nat) (M : ZMS)  (hsf : sf_bk M) : Met l y_LazyMachine_stepBack w_LazyMachine_stepBack ({ frames := 5, cells := 0, slots := 0, locals := 108 } : Room) (va_Pc [.ref (ad 0)] (lm_pre (dC, dI) classes [(cA, .int)] (lz_W cA ad M) sz lm_no)) (va_Qi (fun (r : Int32) (u : ZMS) => r = (ma_bk M).1 ∧ u = (ma_bk M).2) (fun u => lm_at (dC, dI) classes [(cA, .int)] (va_A (lz_W cA ad M) sz) (lz_W cA ad u)) (va_A (lz_W cA ad M) sz)) 0 0 (va_A (lz_W cA ad M) sz) := by
  obtain ⟨⟨ss, sp, fo, ba, no, en, vs, vf, vg⟩, SM, PM, XM, YM⟩ := M
  obtain ⟨hi, hu, hv1, hv2, hn2⟩ := hsf
  refine lm_met (fun A => va_Qi (fun (r : Int32) (u : ZMS) => r = (ma_bk ((ss, sp, fo, ba, no, en, vs, vf, vg), SM, PM, XM, YM)).1 ∧ u = (ma_bk ((ss, sp, fo, ba, no, en, vs, vf, vg), SM, PM, XM, YM)).2) (fun u => lm_at (dC, dI) classes [(cA, .int)] A (lz_W cA ad u)) A) (by decide) rfl (Nat.le_of_ble_eq_true rfl) ?_
  intro p e s m below meth c A hx hb hr hts hown hlocks hname hml hK hP hD hA hE hsz hAe hS ls hl
  replace hl : lv_has ls 2 [(0, .ref (ad 0))] := hl
  clear hAe hsz
  refine lv_aload_n hx hb d_LazyMachine_stepBack_0 rfl (lv_at hl 0 rfl) ?_
  refine va_get (D := (dC, dI)) (ci := 0) (v := .ref (ad 8)) (C := R_LazyMachine) (T := F_LazyMachine) (N := 13) hx hb hts (fun q hq => List.mem_cons_of_mem _ (i_LazyMachine q hq)) hown hK hP 0 rfl rfl 1 (by decide) (hts _ (List.mem_cons_of_mem _ m_2_8)) (fun _ h9 => h9) rfl d_LazyMachine_stepBack_1 ?_
  refine lm_vi (b := ad 8) (As := []) (rest := []) (wr := (ma_W cA ad (ss, sp, fo, ba, no, en, vs, vf, vg)) ++ (hp_W cA (fun k => ad (k + 1)) SM) ++ (tm_W cA (fun k => ad (k + 12)) XM) ++ (tm_W cA (fun k => ad (k + 19)) YM)) ⟨hx, hb, hml, hown, hts⟩ hK hP hD hS hA [8, 9, 10, 11] [0, 1, 2, 3, 4, 5, 6, 7, 12, 13, 14, 15, 16, 17, 18, 19, 20, 21, 22, 23, 24, 25] rfl rfl (by decide) (by decide) (by decide) (c_Pile_topFirst l dC dI cA (fun k => ad (k + 8)) _ PM  (by exact hi.2.2.1)) (cwV 0 hts (lm_gV m_7_12 m_7_13 m_7_14 m_0_3 m_7_15) rfl rfl rfl (by decide +kernel) ⟨Nat.le_of_ble_eq_true rfl, Nat.le_of_ble_eq_true rfl⟩) (va_recv (q0 := 8) hK hP rfl rfl) lm_bl_no (fun _ _ _ => trivial) hl.1 rfl rfl (Nat.le_of_ble_eq_true rfl) d_LazyMachine_stepBack_4 ⟨Nat.le_of_ble_eq_true rfl, Nat.le_of_ble_eq_true rfl⟩ (fun r4 u4 H locs w4 hP hD hS => ?_)
  obtain ⟨e_r4, w4⟩ := w4
  replace w4 := w4.symm
  subst w4
  have hP : va_P (dC, dI) classes (lz_W cA ad ((ss, sp, fo, ba, no, en, vs, vf, vg), SM, PM, XM, YM)) H := hP.sub [0, 1, 2, 3, 4, 5, 6, 7, 22, 23, 24, 25, 8, 9, 10, 11, 12, 13, 14, 15, 16, 17, 18, 19, 20, 21] rfl
  have hD : va_D A (lz_W cA ad ((ss, sp, fo, ba, no, en, vs, vf, vg), SM, PM, XM, YM)) := hD.sub [0, 1, 2, 3, 4, 5, 6, 7, 22, 23, 24, 25, 8, 9, 10, 11, 12, 13, 14, 15, 16, 17, 18, 19, 20, 21] (by decide) rfl
  refine lv_istore_n (lv' := [(1, .int r4), (0, .ref (ad 0))]) hx hb d_LazyMachine_stepBack_7 rfl hl (by decide) rfl (fun ls hl => ?_)
  refine lv_aload_n hx hb d_LazyMachine_stepBack_8 rfl (lv_at hl 1 rfl) ?_
  refine va_get (D := (dC, dI)) (ci := 0) (v := .ref (ad 8)) (C := R_LazyMachine) (T := F_LazyMachine) (N := 13) hx hb hts (fun q hq => List.mem_cons_of_mem _ (i_LazyMachine q hq)) hown hK hP 0 rfl rfl 1 (by decide) (hts _ (List.mem_cons_of_mem _ m_2_8)) (fun _ h9 => h9) rfl d_LazyMachine_stepBack_9 ?_
  refine lm_vi (b := ad 8) (As := []) (rest := []) (wr := (ma_W cA ad (ss, sp, fo, ba, no, en, vs, vf, vg)) ++ (hp_W cA (fun k => ad (k + 1)) SM) ++ (tm_W cA (fun k => ad (k + 12)) XM) ++ (tm_W cA (fun k => ad (k + 19)) YM)) ⟨hx, hb, hml, hown, hts⟩ hK hP hD hS hA [8, 9, 10, 11] [0, 1, 2, 3, 4, 5, 6, 7, 12, 13, 14, 15, 16, 17, 18, 19, 20, 21, 22, 23, 24, 25] rfl rfl (by decide) (by decide) (by decide) (c_Pile_topSort l dC dI cA (fun k => ad (k + 8)) _ PM  (by exact hi.2.2.1)) (cwV 0 hts (lm_gV m_7_16 m_7_17 m_7_18 m_0_3 m_7_19) rfl rfl rfl (by decide +kernel) ⟨Nat.le_of_ble_eq_true rfl, Nat.le_of_ble_eq_true rfl⟩) (va_recv (q0 := 8) hK hP rfl rfl) lm_bl_no (fun _ _ _ => trivial) hl.1 rfl rfl (Nat.le_of_ble_eq_true rfl) d_LazyMachine_stepBack_12 ⟨Nat.le_of_ble_eq_true rfl, Nat.le_of_ble_eq_true rfl⟩ (fun r12 u12 H locs w12 hP hD hS => ?_)
  obtain ⟨e_r12, w12⟩ := w12
  replace w12 := w12.symm
  subst w12
  have hP : va_P (dC, dI) classes (lz_W cA ad ((ss, sp, fo, ba, no, en, vs, vf, vg), SM, PM, XM, YM)) H := hP.sub [0, 1, 2, 3, 4, 5, 6, 7, 22, 23, 24, 25, 8, 9, 10, 11, 12, 13, 14, 15, 16, 17, 18, 19, 20, 21] rfl
  have hD : va_D A (lz_W cA ad ((ss, sp, fo, ba, no, en, vs, vf, vg), SM, PM, XM, YM)) := hD.sub [0, 1, 2, 3, 4, 5, 6, 7, 22, 23, 24, 25, 8, 9, 10, 11, 12, 13, 14, 15, 16, 17, 18, 19, 20, 21] (by decide) rfl
  rw [e_r12]
  by_cases h15_0 : (pl_topSort PM) = 0
  · refine lv_tableIn (tgt := 52) hx hb d_LazyMachine_stepBack_15 (by rw [h15_0]; decide) (by rw [h15_0]; decide) (by rw [h15_0]; rfl) rfl ?_
    refine lv_aload_n hx hb d_LazyMachine_stepBack_52 rfl (lv_at hl 1 rfl) ?_
    refine va_get (D := (dC, dI)) (ci := 0) (v := .ref (ad 8)) (C := R_LazyMachine) (T := F_LazyMachine) (N := 13) hx hb hts (fun q hq => List.mem_cons_of_mem _ (i_LazyMachine q hq)) hown hK hP 0 rfl rfl 1 (by decide) (hts _ (List.mem_cons_of_mem _ m_2_8)) (fun _ h9 => h9) rfl d_LazyMachine_stepBack_53 ?_
    refine lm_vv (b := ad 8) (As := []) (rest := []) (wr := (ma_W cA ad (ss, sp, fo, ba, no, en, vs, vf, vg)) ++ (hp_W cA (fun k => ad (k + 1)) SM) ++ (tm_W cA (fun k => ad (k + 12)) XM) ++ (tm_W cA (fun k => ad (k + 19)) YM)) ⟨hx, hb, hml, hown, hts⟩ hK hP hD hS hA [8, 9, 10, 11] [0, 1, 2, 3, 4, 5, 6, 7, 12, 13, 14, 15, 16, 17, 18, 19, 20, 21, 22, 23, 24, 25] rfl rfl (by decide) (by decide) (by decide) (c_Pile_drop l dC dI cA (fun k => ad (k + 8)) _ PM  ) (cwV 0 hts (lm_gV m_7_20 m_7_21 m_7_22 m_0_3 m_7_23) rfl rfl rfl (by decide +kernel) ⟨Nat.le_of_ble_eq_true rfl, Nat.le_of_ble_eq_true rfl⟩) (va_recv (q0 := 8) hK hP rfl rfl) lm_bl_no (fun _ _ _ => trivial) hl.1 rfl rfl (Nat.le_of_ble_eq_true rfl) d_LazyMachine_stepBack_56 ⟨Nat.le_of_ble_eq_true rfl, Nat.le_of_ble_eq_true rfl⟩ (fun u56 H locs w56 hP hD hS => ?_)
    have hP : va_P (dC, dI) classes (lz_W cA ad ((ss, sp, fo, ba, no, en, vs, vf, vg), SM, u56, XM, YM)) H := hP.sub [0, 1, 2, 3, 4, 5, 6, 7, 22, 23, 24, 25, 8, 9, 10, 11, 12, 13, 14, 15, 16, 17, 18, 19, 20, 21] rfl
    have hD : va_D A (lz_W cA ad ((ss, sp, fo, ba, no, en, vs, vf, vg), SM, u56, XM, YM)) := hD.sub [0, 1, 2, 3, 4, 5, 6, 7, 22, 23, 24, 25, 8, 9, 10, 11, 12, 13, 14, 15, 16, 17, 18, 19, 20, 21] (by decide) rfl
    refine lv_aload_n hx hb d_LazyMachine_stepBack_59 rfl (lv_at hl 1 rfl) ?_
    refine va_get (D := (dC, dI)) (ci := 0) (v := .ref (ad 1)) (C := R_LazyMachine) (T := F_LazyMachine) (N := 13) hx hb hts (fun q hq => List.mem_cons_of_mem _ (i_LazyMachine q hq)) hown hK hP 0 rfl rfl 0 (by decide) (hts _ (List.mem_cons_of_mem _ m_2_7)) (fun _ h9 => h9) rfl d_LazyMachine_stepBack_60 ?_
    refine lv_iload_n hx hb d_LazyMachine_stepBack_63 rfl (lv_at hl 0 rfl) ?_
    refine lv_aload_n hx hb d_LazyMachine_stepBack_64 rfl (lv_at hl 1 rfl) ?_
    refine va_get (D := (dC, dI)) (ci := 0) (v := .int vs) (C := R_LazyMachine) (T := F_LazyMachine) (N := 13) hx hb hts (fun q hq => List.mem_cons_of_mem _ (i_LazyMachine q hq)) hown hK hP 0 rfl rfl 10 (by decide) (hts _ (List.mem_cons_of_mem _ m_2_17)) (fun _ h9 => h9) rfl d_LazyMachine_stepBack_65 ?_
    refine lv_aload_n hx hb d_LazyMachine_stepBack_68 rfl (lv_at hl 1 rfl) ?_
    refine va_get (D := (dC, dI)) (ci := 0) (v := .int vf) (C := R_LazyMachine) (T := F_LazyMachine) (N := 13) hx hb hts (fun q hq => List.mem_cons_of_mem _ (i_LazyMachine q hq)) hown hK hP 0 rfl rfl 11 (by decide) (hts _ (List.mem_cons_of_mem _ m_2_18)) (fun _ h9 => h9) rfl d_LazyMachine_stepBack_69 ?_
    refine lv_aload_n hx hb d_LazyMachine_stepBack_72 rfl (lv_at hl 1 rfl) ?_
    refine va_get (D := (dC, dI)) (ci := 0) (v := .int vg) (C := R_LazyMachine) (T := F_LazyMachine) (N := 13) hx hb hts (fun q hq => List.mem_cons_of_mem _ (i_LazyMachine q hq)) hown hK hP 0 rfl rfl 12 (by decide) (hts _ (List.mem_cons_of_mem _ m_2_19)) (fun _ h9 => h9) rfl d_LazyMachine_stepBack_73 ?_
    refine lm_vv (b := ad 1) (As := [.int r4, .int vs, .int vf, .int vg]) (rest := []) (wr := (ma_W cA ad (ss, sp, fo, ba, no, en, vs, vf, vg)) ++ (pl_W cA (fun k => ad (k + 8)) u56) ++ (tm_W cA (fun k => ad (k + 12)) XM) ++ (tm_W cA (fun k => ad (k + 19)) YM)) ⟨hx, hb, hml, hown, hts⟩ hK hP hD hS hA [1, 2, 3, 4, 5, 6, 7] [0, 8, 9, 10, 11, 12, 13, 14, 15, 16, 17, 18, 19, 20, 21, 22, 23, 24, 25] rfl rfl (by decide) (by decide) (by decide) (c_Heap_become l dC dI cA (fun k => ad (k + 1)) _ SM r4 vs vf vg (by rw [e_r4]; exact hu h15_0)) (cwV 4 hts (lm_gV m_8_0 m_8_1 m_8_2 m_0_2 m_8_3) rfl rfl rfl (by decide +kernel) ⟨Nat.le_of_ble_eq_true rfl, Nat.le_of_ble_eq_true rfl⟩) (va_recv (q0 := 1) hK hP rfl rfl) lm_bl_no (fun _ _ _ => trivial) hl.1 rfl rfl (Nat.le_of_ble_eq_true rfl) d_LazyMachine_stepBack_76 ⟨Nat.le_of_ble_eq_true rfl, Nat.le_of_ble_eq_true rfl⟩ (fun u76 H locs w76 hP hD hS => ?_)
    have hP : va_P (dC, dI) classes (lz_W cA ad ((ss, sp, fo, ba, no, en, vs, vf, vg), u76, u56, XM, YM)) H := hP.sub [0, 19, 20, 21, 22, 23, 24, 25, 1, 2, 3, 4, 5, 6, 7, 8, 9, 10, 11, 12, 13, 14, 15, 16, 17, 18] rfl
    have hD : va_D A (lz_W cA ad ((ss, sp, fo, ba, no, en, vs, vf, vg), u76, u56, XM, YM)) := hD.sub [0, 19, 20, 21, 22, 23, 24, 25, 1, 2, 3, 4, 5, 6, 7, 8, 9, 10, 11, 12, 13, 14, 15, 16, 17, 18] (by decide) rfl
    refine lv_iconst (v := 1) hx hb d_LazyMachine_stepBack_79 (by decide) ?_
    refine lm_ri (v := 1) hx hb hr hlocks ((ss, sp, fo, ba, no, en, vs, vf, vg), u76, u56, XM, YM) ?_ hP hK hD hS d_LazyMachine_stepBack_80
    subst e_r4 e_r12 w56 w76; unfold ma_bk; rw [if_pos h15_0]; exact ⟨rfl, rfl⟩
  by_cases h15_1 : (pl_topSort PM) = 1
  · refine lv_tableIn (tgt := 81) hx hb d_LazyMachine_stepBack_15 (by rw [h15_1]; decide) (by rw [h15_1]; decide) (by rw [h15_1]; rfl) rfl ?_
    refine lv_aload_n hx hb d_LazyMachine_stepBack_81 rfl (lv_at hl 1 rfl) ?_
    refine lv_iload_n hx hb d_LazyMachine_stepBack_82 rfl (lv_at hl 0 rfl) ?_
    refine lm_vi (b := ad 0) (As := [.int r4]) (rest := []) (wr := ([] : va_W)) ⟨hx, hb, hml, hown, hts⟩ hK hP hD hS hA [0, 1, 2, 3, 4, 5, 6, 7, 8, 9, 10, 11, 12, 13, 14, 15, 16, 17, 18, 19, 20, 21, 22, 23, 24, 25] [] rfl rfl (by decide) (by decide) (by decide) (c_LazyMachine_stepArgument l dC dI cA ad _ ((ss, sp, fo, ba, no, en, vs, vf, vg), SM, PM, XM, YM) r4 (by exact hi) (by exact hv1)) (cwV 1 hts (lm_gV m_8_4 m_8_5 m_19_9 m_0_1 m_8_6) rfl rfl rfl (by decide +kernel) ⟨Nat.le_of_ble_eq_true rfl, Nat.le_of_ble_eq_true rfl⟩) (va_recv (q0 := 0) hK hP rfl rfl) lm_bl_no (fun _ _ _ => trivial) hl.1 rfl rfl (Nat.le_of_ble_eq_true rfl) d_LazyMachine_stepBack_83 ⟨Nat.le_of_ble_eq_true rfl, Nat.le_of_ble_eq_true rfl⟩ (fun r83 u83 H locs w83 hP hD hS => ?_)
    obtain ⟨e_r83, w83⟩ := w83
    have hP : va_P (dC, dI) classes (lz_W cA ad u83) H := hP
    have hD : va_D A (lz_W cA ad u83) := hD
    refine lm_ri (v := r83) hx hb hr hlocks u83 ?_ hP hK hD hS d_LazyMachine_stepBack_86
    subst e_r4 e_r12 e_r83 w83; unfold ma_bk; rw [if_neg h15_0]; rw [if_pos h15_1]; exact ⟨rfl, rfl⟩
  by_cases h15_2 : (pl_topSort PM) = 2
  · refine lv_tableIn (tgt := 87) hx hb d_LazyMachine_stepBack_15 (by rw [h15_2]; decide) (by rw [h15_2]; decide) (by rw [h15_2]; rfl) rfl ?_
    refine lv_aload_n hx hb d_LazyMachine_stepBack_87 rfl (lv_at hl 1 rfl) ?_
    refine lv_iload_n hx hb d_LazyMachine_stepBack_88 rfl (lv_at hl 0 rfl) ?_
    refine lv_aload_n hx hb d_LazyMachine_stepBack_89 rfl (lv_at hl 1 rfl) ?_
    refine va_get (D := (dC, dI)) (ci := 0) (v := .ref (ad 8)) (C := R_LazyMachine) (T := F_LazyMachine) (N := 13) hx hb hts (fun q hq => List.mem_cons_of_mem _ (i_LazyMachine q hq)) hown hK hP 0 rfl rfl 1 (by decide) (hts _ (List.mem_cons_of_mem _ m_2_8)) (fun _ h9 => h9) rfl d_LazyMachine_stepBack_90 ?_
    refine lm_vi (b := ad 8) (As := []) (rest := [.int r4, .ref (ad 0)]) (wr := (ma_W cA ad (ss, sp, fo, ba, no, en, vs, vf, vg)) ++ (hp_W cA (fun k => ad (k + 1)) SM) ++ (tm_W cA (fun k => ad (k + 12)) XM) ++ (tm_W cA (fun k => ad (k + 19)) YM)) ⟨hx, hb, hml, hown, hts⟩ hK hP hD hS hA [8, 9, 10, 11] [0, 1, 2, 3, 4, 5, 6, 7, 12, 13, 14, 15, 16, 17, 18, 19, 20, 21, 22, 23, 24, 25] rfl rfl (by decide) (by decide) (by decide) (c_Pile_topSecond l dC dI cA (fun k => ad (k + 8)) _ PM  (by exact hi.2.2.1)) (cwV 0 hts (lm_gV m_9_3 m_9_4 m_9_5 m_0_3 m_9_6) rfl rfl rfl (by decide +kernel) ⟨Nat.le_of_ble_eq_true rfl, Nat.le_of_ble_eq_true rfl⟩) (va_recv (q0 := 8) hK hP rfl rfl) lm_bl_no (fun _ _ _ => trivial) hl.1 rfl rfl (Nat.le_of_ble_eq_true rfl) d_LazyMachine_stepBack_93 ⟨Nat.le_of_ble_eq_true rfl, Nat.le_of_ble_eq_true rfl⟩ (fun r93 u93 H locs w93 hP hD hS => ?_)
    obtain ⟨e_r93, w93⟩ := w93
    replace w93 := w93.symm
    subst w93
    have hP : va_P (dC, dI) classes (lz_W cA ad ((ss, sp, fo, ba, no, en, vs, vf, vg), SM, PM, XM, YM)) H := hP.sub [0, 1, 2, 3, 4, 5, 6, 7, 22, 23, 24, 25, 8, 9, 10, 11, 12, 13, 14, 15, 16, 17, 18, 19, 20, 21] rfl
    have hD : va_D A (lz_W cA ad ((ss, sp, fo, ba, no, en, vs, vf, vg), SM, PM, XM, YM)) := hD.sub [0, 1, 2, 3, 4, 5, 6, 7, 22, 23, 24, 25, 8, 9, 10, 11, 12, 13, 14, 15, 16, 17, 18, 19, 20, 21] (by decide) rfl
    refine lm_vi (b := ad 0) (As := [.int r4, .int r93]) (rest := []) (wr := ([] : va_W)) ⟨hx, hb, hml, hown, hts⟩ hK hP hD hS hA [0, 1, 2, 3, 4, 5, 6, 7, 8, 9, 10, 11, 12, 13, 14, 15, 16, 17, 18, 19, 20, 21, 22, 23, 24, 25] [] rfl rfl (by decide) (by decide) (by decide) (c_LazyMachine_stepLeft l dC dI cA ad _ ((ss, sp, fo, ba, no, en, vs, vf, vg), SM, PM, XM, YM) r4 r93 (by exact hi.2.2.1) (by rw [e_r4]; exact hn2 (by first | exact Or.inl h15_2 | exact Or.inr (Or.inl h15_3) | exact Or.inr (Or.inr h15_4)))) (cwV 2 hts (lm_gV m_9_7 m_9_8 m_19_12 m_0_1 m_9_9) rfl rfl rfl (by decide +kernel) ⟨Nat.le_of_ble_eq_true rfl, Nat.le_of_ble_eq_true rfl⟩) (va_recv (q0 := 0) hK hP rfl rfl) lm_bl_no (fun _ _ _ => trivial) hl.1 rfl rfl (Nat.le_of_ble_eq_true rfl) d_LazyMachine_stepBack_96 ⟨Nat.le_of_ble_eq_true rfl, Nat.le_of_ble_eq_true rfl⟩ (fun r96 u96 H locs w96 hP hD hS => ?_)
    obtain ⟨e_r96, w96⟩ := w96
    have hP : va_P (dC, dI) classes (lz_W cA ad u96) H := hP
    have hD : va_D A (lz_W cA ad u96) := hD
    refine lm_ri (v := r96) hx hb hr hlocks u96 ?_ hP hK hD hS d_LazyMachine_stepBack_99
    subst e_r4 e_r12 e_r93 e_r96 w96; unfold ma_bk; rw [if_neg h15_0]; rw [if_neg h15_1]; rw [if_pos h15_2]; exact ⟨rfl, rfl⟩
  by_cases h15_3 : (pl_topSort PM) = 3
  · refine lv_tableIn (tgt := 100) hx hb d_LazyMachine_stepBack_15 (by rw [h15_3]; decide) (by rw [h15_3]; decide) (by rw [h15_3]; rfl) rfl ?_
    refine lv_aload_n hx hb d_LazyMachine_stepBack_100 rfl (lv_at hl 1 rfl) ?_
    refine lv_iload_n hx hb d_LazyMachine_stepBack_101 rfl (lv_at hl 0 rfl) ?_
    refine lv_aload_n hx hb d_LazyMachine_stepBack_102 rfl (lv_at hl 1 rfl) ?_
    refine va_get (D := (dC, dI)) (ci := 0) (v := .ref (ad 8)) (C := R_LazyMachine) (T := F_LazyMachine) (N := 13) hx hb hts (fun q hq => List.mem_cons_of_mem _ (i_LazyMachine q hq)) hown hK hP 0 rfl rfl 1 (by decide) (hts _ (List.mem_cons_of_mem _ m_2_8)) (fun _ h9 => h9) rfl d_LazyMachine_stepBack_103 ?_
    refine lm_vi (b := ad 8) (As := []) (rest := [.int r4, .ref (ad 0)]) (wr := (ma_W cA ad (ss, sp, fo, ba, no, en, vs, vf, vg)) ++ (hp_W cA (fun k => ad (k + 1)) SM) ++ (tm_W cA (fun k => ad (k + 12)) XM) ++ (tm_W cA (fun k => ad (k + 19)) YM)) ⟨hx, hb, hml, hown, hts⟩ hK hP hD hS hA [8, 9, 10, 11] [0, 1, 2, 3, 4, 5, 6, 7, 12, 13, 14, 15, 16, 17, 18, 19, 20, 21, 22, 23, 24, 25] rfl rfl (by decide) (by decide) (by decide) (c_Pile_topSecond l dC dI cA (fun k => ad (k + 8)) _ PM  (by exact hi.2.2.1)) (cwV 0 hts (lm_gV m_9_3 m_9_4 m_9_5 m_0_3 m_9_6) rfl rfl rfl (by decide +kernel) ⟨Nat.le_of_ble_eq_true rfl, Nat.le_of_ble_eq_true rfl⟩) (va_recv (q0 := 8) hK hP rfl rfl) lm_bl_no (fun _ _ _ => trivial) hl.1 rfl rfl (Nat.le_of_ble_eq_true rfl) d_LazyMachine_stepBack_106 ⟨Nat.le_of_ble_eq_true rfl, Nat.le_of_ble_eq_true rfl⟩ (fun r106 u106 H locs w106 hP hD hS => ?_)
    obtain ⟨e_r106, w106⟩ := w106
    replace w106 := w106.symm
    subst w106
    have hP : va_P (dC, dI) classes (lz_W cA ad ((ss, sp, fo, ba, no, en, vs, vf, vg), SM, PM, XM, YM)) H := hP.sub [0, 1, 2, 3, 4, 5, 6, 7, 22, 23, 24, 25, 8, 9, 10, 11, 12, 13, 14, 15, 16, 17, 18, 19, 20, 21] rfl
    have hD : va_D A (lz_W cA ad ((ss, sp, fo, ba, no, en, vs, vf, vg), SM, PM, XM, YM)) := hD.sub [0, 1, 2, 3, 4, 5, 6, 7, 22, 23, 24, 25, 8, 9, 10, 11, 12, 13, 14, 15, 16, 17, 18, 19, 20, 21] (by decide) rfl
    refine lm_vi (b := ad 0) (As := [.int r4, .int r106]) (rest := []) (wr := ([] : va_W)) ⟨hx, hb, hml, hown, hts⟩ hK hP hD hS hA [0, 1, 2, 3, 4, 5, 6, 7, 8, 9, 10, 11, 12, 13, 14, 15, 16, 17, 18, 19, 20, 21, 22, 23, 24, 25] [] rfl rfl (by decide) (by decide) (by decide) (c_LazyMachine_stepRight l dC dI cA ad _ ((ss, sp, fo, ba, no, en, vs, vf, vg), SM, PM, XM, YM) r4 r106 (by rw [e_r4]; exact hn2 (by first | exact Or.inl h15_2 | exact Or.inr (Or.inl h15_3) | exact Or.inr (Or.inr h15_4)))) (cwV 2 hts (lm_gV m_9_21 m_9_22 m_19_13 m_0_1 m_9_23) rfl rfl rfl (by decide +kernel) ⟨Nat.le_of_ble_eq_true rfl, Nat.le_of_ble_eq_true rfl⟩) (va_recv (q0 := 0) hK hP rfl rfl) lm_bl_no (fun _ _ _ => trivial) hl.1 rfl rfl (Nat.le_of_ble_eq_true rfl) d_LazyMachine_stepBack_109 ⟨Nat.le_of_ble_eq_true rfl, Nat.le_of_ble_eq_true rfl⟩ (fun r109 u109 H locs w109 hP hD hS => ?_)
    obtain ⟨e_r109, w109⟩ := w109
    have hP : va_P (dC, dI) classes (lz_W cA ad u109) H := hP
    have hD : va_D A (lz_W cA ad u109) := hD
    refine lm_ri (v := r109) hx hb hr hlocks u109 ?_ hP hK hD hS d_LazyMachine_stepBack_112
    subst e_r4 e_r12 e_r106 e_r109 w109; unfold ma_bk; rw [if_neg h15_0]; rw [if_neg h15_1]; rw [if_neg h15_2]; rw [if_pos h15_3]; exact ⟨rfl, rfl⟩
  by_cases h15_4 : (pl_topSort PM) = 4
  · refine lv_tableIn (tgt := 113) hx hb d_LazyMachine_stepBack_15 (by rw [h15_4]; decide) (by rw [h15_4]; decide) (by rw [h15_4]; rfl) rfl ?_
    refine lv_aload_n hx hb d_LazyMachine_stepBack_113 rfl (lv_at hl 1 rfl) ?_
    refine lv_iload_n hx hb d_LazyMachine_stepBack_114 rfl (lv_at hl 0 rfl) ?_
    refine lv_aload_n hx hb d_LazyMachine_stepBack_115 rfl (lv_at hl 1 rfl) ?_
    refine va_get (D := (dC, dI)) (ci := 0) (v := .ref (ad 8)) (C := R_LazyMachine) (T := F_LazyMachine) (N := 13) hx hb hts (fun q hq => List.mem_cons_of_mem _ (i_LazyMachine q hq)) hown hK hP 0 rfl rfl 1 (by decide) (hts _ (List.mem_cons_of_mem _ m_2_8)) (fun _ h9 => h9) rfl d_LazyMachine_stepBack_116 ?_
    refine lm_vi (b := ad 8) (As := []) (rest := [.int r4, .ref (ad 0)]) (wr := (ma_W cA ad (ss, sp, fo, ba, no, en, vs, vf, vg)) ++ (hp_W cA (fun k => ad (k + 1)) SM) ++ (tm_W cA (fun k => ad (k + 12)) XM) ++ (tm_W cA (fun k => ad (k + 19)) YM)) ⟨hx, hb, hml, hown, hts⟩ hK hP hD hS hA [8, 9, 10, 11] [0, 1, 2, 3, 4, 5, 6, 7, 12, 13, 14, 15, 16, 17, 18, 19, 20, 21, 22, 23, 24, 25] rfl rfl (by decide) (by decide) (by decide) (c_Pile_topSecond l dC dI cA (fun k => ad (k + 8)) _ PM  (by exact hi.2.2.1)) (cwV 0 hts (lm_gV m_9_3 m_9_4 m_9_5 m_0_3 m_9_6) rfl rfl rfl (by decide +kernel) ⟨Nat.le_of_ble_eq_true rfl, Nat.le_of_ble_eq_true rfl⟩) (va_recv (q0 := 8) hK hP rfl rfl) lm_bl_no (fun _ _ _ => trivial) hl.1 rfl rfl (Nat.le_of_ble_eq_true rfl) d_LazyMachine_stepBack_119 ⟨Nat.le_of_ble_eq_true rfl, Nat.le_of_ble_eq_true rfl⟩ (fun r119 u119 H locs w119 hP hD hS => ?_)
    obtain ⟨e_r119, w119⟩ := w119
    replace w119 := w119.symm
    subst w119
    have hP : va_P (dC, dI) classes (lz_W cA ad ((ss, sp, fo, ba, no, en, vs, vf, vg), SM, PM, XM, YM)) H := hP.sub [0, 1, 2, 3, 4, 5, 6, 7, 22, 23, 24, 25, 8, 9, 10, 11, 12, 13, 14, 15, 16, 17, 18, 19, 20, 21] rfl
    have hD : va_D A (lz_W cA ad ((ss, sp, fo, ba, no, en, vs, vf, vg), SM, PM, XM, YM)) := hD.sub [0, 1, 2, 3, 4, 5, 6, 7, 22, 23, 24, 25, 8, 9, 10, 11, 12, 13, 14, 15, 16, 17, 18, 19, 20, 21] (by decide) rfl
    refine lm_vi (b := ad 0) (As := [.int r4, .int r119]) (rest := []) (wr := ([] : va_W)) ⟨hx, hb, hml, hown, hts⟩ hK hP hD hS hA [0, 1, 2, 3, 4, 5, 6, 7, 8, 9, 10, 11, 12, 13, 14, 15, 16, 17, 18, 19, 20, 21, 22, 23, 24, 25] [] rfl rfl (by decide) (by decide) (by decide) (c_LazyMachine_stepTest l dC dI cA ad _ ((ss, sp, fo, ba, no, en, vs, vf, vg), SM, PM, XM, YM) r4 r119 (by rw [e_r4]; exact hn2 (by first | exact Or.inl h15_2 | exact Or.inr (Or.inl h15_3) | exact Or.inr (Or.inr h15_4)))) (cwV 2 hts (lm_gV m_10_10 m_10_11 m_19_15 m_0_1 m_10_12) rfl rfl rfl (by decide +kernel) ⟨Nat.le_of_ble_eq_true rfl, Nat.le_of_ble_eq_true rfl⟩) (va_recv (q0 := 0) hK hP rfl rfl) lm_bl_no (fun _ _ _ => trivial) hl.1 rfl rfl (Nat.le_of_ble_eq_true rfl) d_LazyMachine_stepBack_122 ⟨Nat.le_of_ble_eq_true rfl, Nat.le_of_ble_eq_true rfl⟩ (fun r122 u122 H locs w122 hP hD hS => ?_)
    obtain ⟨e_r122, w122⟩ := w122
    have hP : va_P (dC, dI) classes (lz_W cA ad u122) H := hP
    have hD : va_D A (lz_W cA ad u122) := hD
    refine lm_ri (v := r122) hx hb hr hlocks u122 ?_ hP hK hD hS d_LazyMachine_stepBack_125
    subst e_r4 e_r12 e_r119 e_r122 w122; unfold ma_bk; rw [if_neg h15_0]; rw [if_neg h15_1]; rw [if_neg h15_2]; rw [if_neg h15_3]; rw [if_pos h15_4]; exact ⟨rfl, rfl⟩
  by_cases h15_5 : (pl_topSort PM) = 5
  · refine lv_tableIn (tgt := 126) hx hb d_LazyMachine_stepBack_15 (by rw [h15_5]; decide) (by rw [h15_5]; decide) (by rw [h15_5]; rfl) rfl ?_
    refine lv_aload_n hx hb d_LazyMachine_stepBack_126 rfl (lv_at hl 1 rfl) ?_
    refine lv_iload_n hx hb d_LazyMachine_stepBack_127 rfl (lv_at hl 0 rfl) ?_
    refine lm_vi (b := ad 0) (As := [.int r4]) (rest := []) (wr := ([] : va_W)) ⟨hx, hb, hml, hown, hts⟩ hK hP hD hS hA [0, 1, 2, 3, 4, 5, 6, 7, 8, 9, 10, 11, 12, 13, 14, 15, 16, 17, 18, 19, 20, 21, 22, 23, 24, 25] [] rfl rfl (by decide) (by decide) (by decide) (c_LazyMachine_stepPart l dC dI cA ad _ ((ss, sp, fo, ba, no, en, vs, vf, vg), SM, PM, XM, YM) r4 (by exact hi.2.2.1) (by exact hv2)) (cwV 1 hts (lm_gV m_10_13 m_10_14 m_19_16 m_0_1 m_10_15) rfl rfl rfl (by decide +kernel) ⟨Nat.le_of_ble_eq_true rfl, Nat.le_of_ble_eq_true rfl⟩) (va_recv (q0 := 0) hK hP rfl rfl) lm_bl_no (fun _ _ _ => trivial) hl.1 rfl rfl (Nat.le_of_ble_eq_true rfl) d_LazyMachine_stepBack_128 ⟨Nat.le_of_ble_eq_true rfl, Nat.le_of_ble_eq_true rfl⟩ (fun r128 u128 H locs w128 hP hD hS => ?_)
    obtain ⟨e_r128, w128⟩ := w128
    have hP : va_P (dC, dI) classes (lz_W cA ad u128) H := hP
    have hD : va_D A (lz_W cA ad u128) := hD
    refine lm_ri (v := r128) hx hb hr hlocks u128 ?_ hP hK hD hS d_LazyMachine_stepBack_131
    subst e_r4 e_r12 e_r128 w128; unfold ma_bk; rw [if_neg h15_0]; rw [if_neg h15_1]; rw [if_neg h15_2]; rw [if_neg h15_3]; rw [if_neg h15_4]; rw [if_pos h15_5]; exact ⟨rfl, rfl⟩
  have qh15_0 := lv_neT (a := 0) h15_0 (by decide)
  have qh15_1 := lv_neT (a := 1) h15_1 (by decide)
  have qh15_2 := lv_neT (a := 2) h15_2 (by decide)
  have qh15_3 := lv_neT (a := 3) h15_3 (by decide)
  have qh15_4 := lv_neT (a := 4) h15_4 (by decide)
  have qh15_5 := lv_neT (a := 5) h15_5 (by decide)
  refine lv_tableOut (tgt := 132) hx hb d_LazyMachine_stepBack_15 (by omega) rfl ?_
  refine lv_iconst (v := 2) hx hb d_LazyMachine_stepBack_132 (by decide) ?_
  refine lm_ri (v := 2) hx hb hr hlocks ((ss, sp, fo, ba, no, en, vs, vf, vg), SM, PM, XM, YM) ?_ hP hK hD hS d_LazyMachine_stepBack_133
  subst e_r4 e_r12; unfold ma_bk; rw [if_neg h15_0]; rw [if_neg h15_1]; rw [if_neg h15_2]; rw [if_neg h15_3]; rw [if_neg h15_4]; rw [if_neg h15_5]; exact ⟨rfl, rfl⟩
set_option maxHeartbeats 4000000 in
set_option maxRecDepth 100000 in
theorem c_LazyMachine_run (l : Launch) (dC : Nat → ClassId) (dI : Nat → Nat → Nat) (cA : ClassId)  (ad : Nat → Nat) (sz : Nat) (M : ZMS) (x : Int32) (hs : ¬ l_ss M = 0) (hx1 : ∃ k : Nat, k ≤ 5000 ∧ x = nI k) (I : ZMS → Prop) (hI0 : I M) (hI1 : ∀ N, I N → l_ss N = 1 → sf_step N) (hI2 : ∀ N, I N → l_ss N = 1 → I (ma_step N)) : Met l y_LazyMachine_run w_LazyMachine_run ({ frames := 6, cells := 0, slots := 0, locals := 130 } : Room) (va_Pc [.ref (ad 0), .int x] (lm_pre (dC, dI) classes [(cA, .int)] (lz_W cA ad M) sz lm_no)) (va_Qi (fun (r : Int32) (u : ZMS) => r = l_ss (ma_runN x.toNatClampNeg M) ∧ u = ma_runN x.toNatClampNeg M) (fun u => lm_at (dC, dI) classes [(cA, .int)] (va_A (lz_W cA ad M) sz) (lz_W cA ad u)) (va_A (lz_W cA ad M) sz)) 0 0 (va_A (lz_W cA ad M) sz) := by
  obtain ⟨⟨ss, sp, fo, ba, no, en, vs, vf, vg⟩, SM, PM, XM, YM⟩ := M
  obtain ⟨k, hk0, rfl⟩ := hx1
  have hs : ¬ ss = 0 := hs
  refine lm_met (fun A => va_Qi (fun (r : Int32) (u : ZMS) => r = l_ss (ma_runN (nI k).toNatClampNeg ((ss, sp, fo, ba, no, en, vs, vf, vg), SM, PM, XM, YM)) ∧ u = ma_runN (nI k).toNatClampNeg ((ss, sp, fo, ba, no, en, vs, vf, vg), SM, PM, XM, YM)) (fun u => lm_at (dC, dI) classes [(cA, .int)] A (lz_W cA ad u)) A) (by decide) rfl (Nat.le_of_ble_eq_true rfl) ?_
  intro p e s m below meth c A hx hb hr hts hown hlocks hname hml hK hP hD hA hE hsz hAe hS ls hl
  replace hl : lv_has ls 3 [(0, .ref (ad 0)), (1, .int (nI k))] := hl
  clear hAe hsz
  refine lv_aload_n hx hb d_LazyMachine_run_0 rfl (lv_at hl 0 rfl) ?_
  refine va_get (D := (dC, dI)) (ci := 0) (v := .int ss) (C := R_LazyMachine) (T := F_LazyMachine) (N := 13) hx hb hts (fun q hq => List.mem_cons_of_mem _ (i_LazyMachine q hq)) hown hK hP 0 rfl rfl 4 (by decide) (hts _ (List.mem_cons_of_mem _ m_2_11)) (fun _ h9 => h9) rfl d_LazyMachine_run_1 ?_
  refine lv_if_ne hx hb d_LazyMachine_run_4 rfl (fun h4 => ?_) (fun h4 => by exact absurd h4 hs)
  refine lv_iload_n hx hb d_LazyMachine_run_17 rfl (lv_at hl 1 rfl) ?_
  refine lv_if_lt hx hb d_LazyMachine_run_18 rfl (fun h18 => by exact absurd h18 (nI_pos (by omega))) (fun h18 => ?_)
  refine lv_iload_n hx hb d_LazyMachine_run_21 rfl (lv_at hl 1 rfl) ?_
  refine lv_sipush (v := 5000) hx hb d_LazyMachine_run_22 (by decide) ?_
  refine lv_icmp_le hx hb d_LazyMachine_run_25 rfl (fun h25 => ?_) (fun h25 => by exact absurd (show nI k ≤ (5000 : Int32) from nI_le (b := 5000) hk0 (by decide)) h25)
  refine lv_iconst (v := 0) hx hb d_LazyMachine_run_38 (by decide) ?_
  refine lv_istore_n (lv' := [(2, .int 0), (0, .ref (ad 0)), (1, .int (nI k))]) hx hb d_LazyMachine_run_39 rfl hl (by decide) rfl (fun ls hl => ?_)
  have loop : ∀ (fu : Nat) (i : Nat) (N : ZMS) (ls : Array Slot) (H : Heap) (locs : List Loc), (i + fu = k) → (I N) → (ma_runN (nI k).toNatClampNeg ((ss, sp, fo, ba, no, en, vs, vf, vg), SM, PM, XM, YM) = ma_runN fu N) → lv_has ls 3 [(2, .int (nI i)), (0, .ref (ad 0)), (1, .int (nI k))] → va_P (dC, dI) classes (lz_W cA ad N) H → va_D A (lz_W cA ad N) → va_S A s.heap H locs → W p l e (headSpec w_LazyMachine_run ({ frames := 6, cells := 0, slots := 0, locals := 130 } : Room)).room s m (List.toArray [.ref (ad 0), .int (nI k)]) below meth c H locs 0 0 (MQ below (va_Qi (fun (r : Int32) (u : ZMS) => r = l_ss (ma_runN (nI k).toNatClampNeg ((ss, sp, fo, ba, no, en, vs, vf, vg), SM, PM, XM, YM)) ∧ u = ma_runN (nI k).toNatClampNeg ((ss, sp, fo, ba, no, en, vs, vf, vg), SM, PM, XM, YM)) (fun u => lm_at (dC, dI) classes [(cA, .int)] A (lz_W cA ad u)) A) (List.toArray [.ref (ad 0), .int (nI k)]) s 0 0 A) (F0 m 40 ls []) := by
    intro fu
    induction fu with
    | zero => 
      intro i N ls H locs hk hI hq hl hP hD hS
      refine lv_iload_n hx hb d_LazyMachine_run_40 rfl (lv_at hl 0 rfl) ?_
      refine lv_iload_n hx hb d_LazyMachine_run_41 rfl (lv_at hl 2 rfl) ?_
      refine lv_icmp_ge hx hb d_LazyMachine_run_42 rfl (fun h42 => ?_) (fun h42 => by exact absurd (nI_le (by omega) (by omega)) h42)
      refine lv_aload_n hx hb d_LazyMachine_run_107 rfl (lv_at hl 1 rfl) ?_
      refine va_get (D := (dC, dI)) (ci := 0) (v := .int N.1.1) (C := R_LazyMachine) (T := F_LazyMachine) (N := 13) hx hb hts (fun q hq => List.mem_cons_of_mem _ (i_LazyMachine q hq)) hown hK hP 0 rfl rfl 4 (by decide) (hts _ (List.mem_cons_of_mem _ m_2_11)) (fun _ h9 => h9) rfl d_LazyMachine_run_108 ?_
      refine lm_ri (v := N.1.1) hx hb hr hlocks N ?_ hP hK hD hS d_LazyMachine_run_111
      rw [hq]; first | (rw [ma_runN, if_neg h50]; exact ⟨rfl, rfl⟩) | (rw [ma_runN]; exact ⟨rfl, rfl⟩)
    | succ fu ih => 
      intro i N ls H locs hk hI hq hl hP hD hS
      refine lv_iload_n hx hb d_LazyMachine_run_40 rfl (lv_at hl 0 rfl) ?_
      refine lv_iload_n hx hb d_LazyMachine_run_41 rfl (lv_at hl 2 rfl) ?_
      refine lv_icmp_ge hx hb d_LazyMachine_run_42 rfl (fun h42 => by exact absurd h42 (nI_ge (by omega) (by omega))) (fun h42 => ?_)
      refine lv_aload_n hx hb d_LazyMachine_run_45 rfl (lv_at hl 1 rfl) ?_
      refine va_get (D := (dC, dI)) (ci := 0) (v := .int N.1.1) (C := R_LazyMachine) (T := F_LazyMachine) (N := 13) hx hb hts (fun q hq => List.mem_cons_of_mem _ (i_LazyMachine q hq)) hown hK hP 0 rfl rfl 4 (by decide) (hts _ (List.mem_cons_of_mem _ m_2_11)) (fun _ h9 => h9) rfl d_LazyMachine_run_46 ?_
      refine lv_iconst (v := 1) hx hb d_LazyMachine_run_49 (by decide) ?_
      refine lv_icmp_ne hx hb d_LazyMachine_run_50 rfl (fun h50 => ?_) (fun h50 => ?_)
      · refine lv_aload_n hx hb d_LazyMachine_run_107 rfl (lv_at hl 1 rfl) ?_
        refine va_get (D := (dC, dI)) (ci := 0) (v := .int N.1.1) (C := R_LazyMachine) (T := F_LazyMachine) (N := 13) hx hb hts (fun q hq => List.mem_cons_of_mem _ (i_LazyMachine q hq)) hown hK hP 0 rfl rfl 4 (by decide) (hts _ (List.mem_cons_of_mem _ m_2_11)) (fun _ h9 => h9) rfl d_LazyMachine_run_108 ?_
        refine lm_ri (v := N.1.1) hx hb hr hlocks N ?_ hP hK hD hS d_LazyMachine_run_111
        rw [hq]; first | (rw [ma_runN, if_neg h50]; exact ⟨rfl, rfl⟩) | (rw [ma_runN]; exact ⟨rfl, rfl⟩)
      · refine lv_aload_n hx hb d_LazyMachine_run_53 rfl (lv_at hl 1 rfl) ?_
        refine lv_aload_n hx hb d_LazyMachine_run_54 rfl (lv_at hl 1 rfl) ?_
        refine va_get (D := (dC, dI)) (ci := 0) (v := .int N.1.2.2.2.1) (C := R_LazyMachine) (T := F_LazyMachine) (N := 13) hx hb hts (fun q hq => List.mem_cons_of_mem _ (i_LazyMachine q hq)) hown hK hP 0 rfl rfl 7 (by decide) (hts _ (List.mem_cons_of_mem _ m_2_14)) (fun _ h9 => h9) rfl d_LazyMachine_run_55 ?_
        refine lv_if_eq hx hb d_LazyMachine_run_58 rfl (fun h58 => ?_) (fun h58 => ?_)
        · refine lv_aload_n hx hb d_LazyMachine_run_68 rfl (lv_at hl 1 rfl) ?_
          refine lm_vi (b := ad 0) (As := []) (rest := [.ref (ad 0)]) (wr := ([] : va_W)) ⟨hx, hb, hml, hown, hts⟩ hK hP hD hS hA [0, 1, 2, 3, 4, 5, 6, 7, 8, 9, 10, 11, 12, 13, 14, 15, 16, 17, 18, 19, 20, 21, 22, 23, 24, 25] [] rfl rfl (by decide) (by decide) (by decide) (c_LazyMachine_stepAt l dC dI cA ad _ N  (by exact (hI1 N hI h50).1 h58)) (cwV 0 hts (lm_gV m_11_8 m_11_9 m_19_18 m_0_1 m_11_10) rfl rfl rfl (by decide +kernel) ⟨Nat.le_of_ble_eq_true rfl, Nat.le_of_ble_eq_true rfl⟩) (va_recv (q0 := 0) hK hP rfl rfl) lm_bl_no (fun _ _ _ => trivial) hl.1 rfl rfl (Nat.le_of_ble_eq_true rfl) d_LazyMachine_run_69 ⟨Nat.le_of_ble_eq_true rfl, Nat.le_of_ble_eq_true rfl⟩ (fun r69 u69 H locs w69 hP hD hS => ?_)
          obtain ⟨e_r69, w69⟩ := w69
          have hP : va_P (dC, dI) classes (lz_W cA ad u69) H := hP
          have hD : va_D A (lz_W cA ad u69) := hD
          refine va_put (D := (dC, dI)) (ci := 0) (v := .int r69) (ty := .int) (C := R_LazyMachine) (T := F_LazyMachine) (N := 13) hx hb hts (fun q hq => List.mem_cons_of_mem _ (i_LazyMachine q hq)) t_LazyMachine t_LazyMachine_ok n_LazyMachine hown hK hP hD hS 0 rfl rfl 4 (by decide) (hts _ (List.mem_cons_of_mem _ m_2_11)) (fun _ h9 => h9) rfl (by decide +kernel) rfl rfl (Nat.le_of_ble_eq_true rfl) d_LazyMachine_run_72 (fun H locs hP hD hS => ?_)
          have hP : va_P (dC, dI) classes (lz_W cA ad ((r69, u69.1.2.1, u69.1.2.2.1, u69.1.2.2.2.1, u69.1.2.2.2.2.1, u69.1.2.2.2.2.2.1, u69.1.2.2.2.2.2.2.1, u69.1.2.2.2.2.2.2.2.1, u69.1.2.2.2.2.2.2.2.2), u69.2.1, u69.2.2.1, u69.2.2.2.1, u69.2.2.2.2)) H := hP
          have hD : va_D A (lz_W cA ad ((r69, u69.1.2.1, u69.1.2.2.1, u69.1.2.2.2.1, u69.1.2.2.2.2.1, u69.1.2.2.2.2.2.1, u69.1.2.2.2.2.2.2.1, u69.1.2.2.2.2.2.2.2.1, u69.1.2.2.2.2.2.2.2.2), u69.2.1, u69.2.2.1, u69.2.2.2.1, u69.2.2.2.2)) := hD
          refine lv_aload_n hx hb d_LazyMachine_run_75 rfl (lv_at hl 1 rfl) ?_
          refine va_get (D := (dC, dI)) (ci := 0) (v := .int r69) (C := R_LazyMachine) (T := F_LazyMachine) (N := 13) hx hb hts (fun q hq => List.mem_cons_of_mem _ (i_LazyMachine q hq)) hown hK hP 0 rfl rfl 4 (by decide) (hts _ (List.mem_cons_of_mem _ m_2_11)) (fun _ h9 => h9) rfl d_LazyMachine_run_76 ?_
          refine lv_iconst (v := 1) hx hb d_LazyMachine_run_79 (by decide) ?_
          refine lv_icmp_eq hx hb d_LazyMachine_run_80 rfl (fun h80 => ?_) (fun h80 => ?_)
          · refine lv_aload_n hx hb d_LazyMachine_run_91 rfl (lv_at hl 1 rfl) ?_
            refine lv_dup hx hb d_LazyMachine_run_92 rfl ?_
            refine va_get (D := (dC, dI)) (ci := 0) (v := .int u69.1.2.1) (C := R_LazyMachine) (T := F_LazyMachine) (N := 13) hx hb hts (fun q hq => List.mem_cons_of_mem _ (i_LazyMachine q hq)) hown hK hP 0 rfl rfl 5 (by decide) (hts _ (List.mem_cons_of_mem _ m_2_12)) (fun _ h9 => h9) rfl d_LazyMachine_run_93 ?_
            refine lv_iconst (v := 1) hx hb d_LazyMachine_run_96 (by decide) ?_
            refine lv_iadd hx hb d_LazyMachine_run_97 ?_
            refine va_put (D := (dC, dI)) (ci := 0) (v := .int (u69.1.2.1 + 1)) (ty := .int) (C := R_LazyMachine) (T := F_LazyMachine) (N := 13) hx hb hts (fun q hq => List.mem_cons_of_mem _ (i_LazyMachine q hq)) t_LazyMachine t_LazyMachine_ok n_LazyMachine hown hK hP hD hS 0 rfl rfl 5 (by decide) (hts _ (List.mem_cons_of_mem _ m_2_12)) (fun _ h9 => h9) rfl (by decide +kernel) rfl rfl (Nat.le_of_ble_eq_true rfl) d_LazyMachine_run_98 (fun H locs hP hD hS => ?_)
            have hP : va_P (dC, dI) classes (lz_W cA ad ((r69, (u69.1.2.1 + 1), u69.1.2.2.1, u69.1.2.2.2.1, u69.1.2.2.2.2.1, u69.1.2.2.2.2.2.1, u69.1.2.2.2.2.2.2.1, u69.1.2.2.2.2.2.2.2.1, u69.1.2.2.2.2.2.2.2.2), u69.2.1, u69.2.2.1, u69.2.2.2.1, u69.2.2.2.2)) H := hP
            have hD : va_D A (lz_W cA ad ((r69, (u69.1.2.1 + 1), u69.1.2.2.1, u69.1.2.2.2.1, u69.1.2.2.2.2.1, u69.1.2.2.2.2.2.1, u69.1.2.2.2.2.2.2.1, u69.1.2.2.2.2.2.2.2.1, u69.1.2.2.2.2.2.2.2.2), u69.2.1, u69.2.2.1, u69.2.2.2.1, u69.2.2.2.2)) := hD
            refine lv_iinc (k := 0) (v := (nI (i + 1))) (lv' := [(2, .int (nI (i + 1))), (0, .ref (ad 0)), (1, .int (nI k))]) hx hb d_LazyMachine_run_101 hl rfl ((nI_succ i).symm) (by decide) rfl (fun ls hl => ?_)
            refine lv_goto hx hb d_LazyMachine_run_104 rfl ?_
            have hst : ((r69, (u69.1.2.1 + 1), u69.1.2.2.1, u69.1.2.2.2.1, u69.1.2.2.2.2.1, u69.1.2.2.2.2.2.1, u69.1.2.2.2.2.2.2.1, u69.1.2.2.2.2.2.2.2.1, u69.1.2.2.2.2.2.2.2.2), u69.2.1, u69.2.2.1, u69.2.2.2.1, u69.2.2.2.2) = ma_step N := by
              subst e_r69 w69; unfold ma_step ma_fin; (first | rw [if_pos h58] | rw [if_neg h58]); (first | rw [if_pos h80] | rw [if_neg h80]); rfl
            rw [hst] at hP hD
            exact ih (i + 1) (ma_step N) _ _ _ (by omega) (by exact hI2 N hI h50) (by rw [hq, ma_runN, if_pos h50]) (lv_sub hl [0, 1, 2] rfl) hP hD hS
          · refine lv_aload_n hx hb d_LazyMachine_run_83 rfl (lv_at hl 1 rfl) ?_
            refine va_get (D := (dC, dI)) (ci := 0) (v := .int r69) (C := R_LazyMachine) (T := F_LazyMachine) (N := 13) hx hb hts (fun q hq => List.mem_cons_of_mem _ (i_LazyMachine q hq)) hown hK hP 0 rfl rfl 4 (by decide) (hts _ (List.mem_cons_of_mem _ m_2_11)) (fun _ h9 => h9) rfl d_LazyMachine_run_84 ?_
            refine lv_iconst (v := 2) hx hb d_LazyMachine_run_87 (by decide) ?_
            refine lv_icmp_ne hx hb d_LazyMachine_run_88 rfl (fun h88 => ?_) (fun h88 => ?_)
            · refine lv_iinc (k := 0) (v := (nI (i + 1))) (lv' := [(2, .int (nI (i + 1))), (0, .ref (ad 0)), (1, .int (nI k))]) hx hb d_LazyMachine_run_101 hl rfl ((nI_succ i).symm) (by decide) rfl (fun ls hl => ?_)
              refine lv_goto hx hb d_LazyMachine_run_104 rfl ?_
              have hst : ((r69, u69.1.2.1, u69.1.2.2.1, u69.1.2.2.2.1, u69.1.2.2.2.2.1, u69.1.2.2.2.2.2.1, u69.1.2.2.2.2.2.2.1, u69.1.2.2.2.2.2.2.2.1, u69.1.2.2.2.2.2.2.2.2), u69.2.1, u69.2.2.1, u69.2.2.2.1, u69.2.2.2.2) = ma_step N := by
                subst e_r69 w69; unfold ma_step ma_fin; (first | rw [if_pos h58] | rw [if_neg h58]); (first | rw [if_pos h80] | rw [if_neg h80]); (first | rw [if_pos h88] | rw [if_neg h88]); rfl
              rw [hst] at hP hD
              exact ih (i + 1) (ma_step N) _ _ _ (by omega) (by exact hI2 N hI h50) (by rw [hq, ma_runN, if_pos h50]) (lv_sub hl [0, 1, 2] rfl) hP hD hS
            · refine lv_aload_n hx hb d_LazyMachine_run_91 rfl (lv_at hl 1 rfl) ?_
              refine lv_dup hx hb d_LazyMachine_run_92 rfl ?_
              refine va_get (D := (dC, dI)) (ci := 0) (v := .int u69.1.2.1) (C := R_LazyMachine) (T := F_LazyMachine) (N := 13) hx hb hts (fun q hq => List.mem_cons_of_mem _ (i_LazyMachine q hq)) hown hK hP 0 rfl rfl 5 (by decide) (hts _ (List.mem_cons_of_mem _ m_2_12)) (fun _ h9 => h9) rfl d_LazyMachine_run_93 ?_
              refine lv_iconst (v := 1) hx hb d_LazyMachine_run_96 (by decide) ?_
              refine lv_iadd hx hb d_LazyMachine_run_97 ?_
              refine va_put (D := (dC, dI)) (ci := 0) (v := .int (u69.1.2.1 + 1)) (ty := .int) (C := R_LazyMachine) (T := F_LazyMachine) (N := 13) hx hb hts (fun q hq => List.mem_cons_of_mem _ (i_LazyMachine q hq)) t_LazyMachine t_LazyMachine_ok n_LazyMachine hown hK hP hD hS 0 rfl rfl 5 (by decide) (hts _ (List.mem_cons_of_mem _ m_2_12)) (fun _ h9 => h9) rfl (by decide +kernel) rfl rfl (Nat.le_of_ble_eq_true rfl) d_LazyMachine_run_98 (fun H locs hP hD hS => ?_)
              have hP : va_P (dC, dI) classes (lz_W cA ad ((r69, (u69.1.2.1 + 1), u69.1.2.2.1, u69.1.2.2.2.1, u69.1.2.2.2.2.1, u69.1.2.2.2.2.2.1, u69.1.2.2.2.2.2.2.1, u69.1.2.2.2.2.2.2.2.1, u69.1.2.2.2.2.2.2.2.2), u69.2.1, u69.2.2.1, u69.2.2.2.1, u69.2.2.2.2)) H := hP
              have hD : va_D A (lz_W cA ad ((r69, (u69.1.2.1 + 1), u69.1.2.2.1, u69.1.2.2.2.1, u69.1.2.2.2.2.1, u69.1.2.2.2.2.2.1, u69.1.2.2.2.2.2.2.1, u69.1.2.2.2.2.2.2.2.1, u69.1.2.2.2.2.2.2.2.2), u69.2.1, u69.2.2.1, u69.2.2.2.1, u69.2.2.2.2)) := hD
              refine lv_iinc (k := 0) (v := (nI (i + 1))) (lv' := [(2, .int (nI (i + 1))), (0, .ref (ad 0)), (1, .int (nI k))]) hx hb d_LazyMachine_run_101 hl rfl ((nI_succ i).symm) (by decide) rfl (fun ls hl => ?_)
              refine lv_goto hx hb d_LazyMachine_run_104 rfl ?_
              have hst : ((r69, (u69.1.2.1 + 1), u69.1.2.2.1, u69.1.2.2.2.1, u69.1.2.2.2.2.1, u69.1.2.2.2.2.2.1, u69.1.2.2.2.2.2.2.1, u69.1.2.2.2.2.2.2.2.1, u69.1.2.2.2.2.2.2.2.2), u69.2.1, u69.2.2.1, u69.2.2.2.1, u69.2.2.2.2) = ma_step N := by
                subst e_r69 w69; unfold ma_step ma_fin; (first | rw [if_pos h58] | rw [if_neg h58]); (first | rw [if_pos h80] | rw [if_neg h80]); (first | rw [if_pos h88] | rw [if_neg h88]); rfl
              rw [hst] at hP hD
              exact ih (i + 1) (ma_step N) _ _ _ (by omega) (by exact hI2 N hI h50) (by rw [hq, ma_runN, if_pos h50]) (lv_sub hl [0, 1, 2] rfl) hP hD hS
        · refine lv_aload_n hx hb d_LazyMachine_run_61 rfl (lv_at hl 1 rfl) ?_
          refine lm_vi (b := ad 0) (As := []) (rest := [.ref (ad 0)]) (wr := ([] : va_W)) ⟨hx, hb, hml, hown, hts⟩ hK hP hD hS hA [0, 1, 2, 3, 4, 5, 6, 7, 8, 9, 10, 11, 12, 13, 14, 15, 16, 17, 18, 19, 20, 21, 22, 23, 24, 25] [] rfl rfl (by decide) (by decide) (by decide) (c_LazyMachine_stepBack l dC dI cA ad _ N  (by exact (hI1 N hI h50).2 h58)) (cwV 0 hts (lm_gV m_7_9 m_7_10 m_19_8 m_0_1 m_7_11) rfl rfl rfl (by decide +kernel) ⟨Nat.le_of_ble_eq_true rfl, Nat.le_of_ble_eq_true rfl⟩) (va_recv (q0 := 0) hK hP rfl rfl) lm_bl_no (fun _ _ _ => trivial) hl.1 rfl rfl (Nat.le_of_ble_eq_true rfl) d_LazyMachine_run_62 ⟨Nat.le_of_ble_eq_true rfl, Nat.le_of_ble_eq_true rfl⟩ (fun r62 u62 H locs w62 hP hD hS => ?_)
          obtain ⟨e_r62, w62⟩ := w62
          have hP : va_P (dC, dI) classes (lz_W cA ad u62) H := hP
          have hD : va_D A (lz_W cA ad u62) := hD
          refine lv_goto hx hb d_LazyMachine_run_65 rfl ?_
          refine va_put (D := (dC, dI)) (ci := 0) (v := .int r62) (ty := .int) (C := R_LazyMachine) (T := F_LazyMachine) (N := 13) hx hb hts (fun q hq => List.mem_cons_of_mem _ (i_LazyMachine q hq)) t_LazyMachine t_LazyMachine_ok n_LazyMachine hown hK hP hD hS 0 rfl rfl 4 (by decide) (hts _ (List.mem_cons_of_mem _ m_2_11)) (fun _ h9 => h9) rfl (by decide +kernel) rfl rfl (Nat.le_of_ble_eq_true rfl) d_LazyMachine_run_72 (fun H locs hP hD hS => ?_)
          have hP : va_P (dC, dI) classes (lz_W cA ad ((r62, u62.1.2.1, u62.1.2.2.1, u62.1.2.2.2.1, u62.1.2.2.2.2.1, u62.1.2.2.2.2.2.1, u62.1.2.2.2.2.2.2.1, u62.1.2.2.2.2.2.2.2.1, u62.1.2.2.2.2.2.2.2.2), u62.2.1, u62.2.2.1, u62.2.2.2.1, u62.2.2.2.2)) H := hP
          have hD : va_D A (lz_W cA ad ((r62, u62.1.2.1, u62.1.2.2.1, u62.1.2.2.2.1, u62.1.2.2.2.2.1, u62.1.2.2.2.2.2.1, u62.1.2.2.2.2.2.2.1, u62.1.2.2.2.2.2.2.2.1, u62.1.2.2.2.2.2.2.2.2), u62.2.1, u62.2.2.1, u62.2.2.2.1, u62.2.2.2.2)) := hD
          refine lv_aload_n hx hb d_LazyMachine_run_75 rfl (lv_at hl 1 rfl) ?_
          refine va_get (D := (dC, dI)) (ci := 0) (v := .int r62) (C := R_LazyMachine) (T := F_LazyMachine) (N := 13) hx hb hts (fun q hq => List.mem_cons_of_mem _ (i_LazyMachine q hq)) hown hK hP 0 rfl rfl 4 (by decide) (hts _ (List.mem_cons_of_mem _ m_2_11)) (fun _ h9 => h9) rfl d_LazyMachine_run_76 ?_
          refine lv_iconst (v := 1) hx hb d_LazyMachine_run_79 (by decide) ?_
          refine lv_icmp_eq hx hb d_LazyMachine_run_80 rfl (fun h80 => ?_) (fun h80 => ?_)
          · refine lv_aload_n hx hb d_LazyMachine_run_91 rfl (lv_at hl 1 rfl) ?_
            refine lv_dup hx hb d_LazyMachine_run_92 rfl ?_
            refine va_get (D := (dC, dI)) (ci := 0) (v := .int u62.1.2.1) (C := R_LazyMachine) (T := F_LazyMachine) (N := 13) hx hb hts (fun q hq => List.mem_cons_of_mem _ (i_LazyMachine q hq)) hown hK hP 0 rfl rfl 5 (by decide) (hts _ (List.mem_cons_of_mem _ m_2_12)) (fun _ h9 => h9) rfl d_LazyMachine_run_93 ?_
            refine lv_iconst (v := 1) hx hb d_LazyMachine_run_96 (by decide) ?_
            refine lv_iadd hx hb d_LazyMachine_run_97 ?_
            refine va_put (D := (dC, dI)) (ci := 0) (v := .int (u62.1.2.1 + 1)) (ty := .int) (C := R_LazyMachine) (T := F_LazyMachine) (N := 13) hx hb hts (fun q hq => List.mem_cons_of_mem _ (i_LazyMachine q hq)) t_LazyMachine t_LazyMachine_ok n_LazyMachine hown hK hP hD hS 0 rfl rfl 5 (by decide) (hts _ (List.mem_cons_of_mem _ m_2_12)) (fun _ h9 => h9) rfl (by decide +kernel) rfl rfl (Nat.le_of_ble_eq_true rfl) d_LazyMachine_run_98 (fun H locs hP hD hS => ?_)
            have hP : va_P (dC, dI) classes (lz_W cA ad ((r62, (u62.1.2.1 + 1), u62.1.2.2.1, u62.1.2.2.2.1, u62.1.2.2.2.2.1, u62.1.2.2.2.2.2.1, u62.1.2.2.2.2.2.2.1, u62.1.2.2.2.2.2.2.2.1, u62.1.2.2.2.2.2.2.2.2), u62.2.1, u62.2.2.1, u62.2.2.2.1, u62.2.2.2.2)) H := hP
            have hD : va_D A (lz_W cA ad ((r62, (u62.1.2.1 + 1), u62.1.2.2.1, u62.1.2.2.2.1, u62.1.2.2.2.2.1, u62.1.2.2.2.2.2.1, u62.1.2.2.2.2.2.2.1, u62.1.2.2.2.2.2.2.2.1, u62.1.2.2.2.2.2.2.2.2), u62.2.1, u62.2.2.1, u62.2.2.2.1, u62.2.2.2.2)) := hD
            refine lv_iinc (k := 0) (v := (nI (i + 1))) (lv' := [(2, .int (nI (i + 1))), (0, .ref (ad 0)), (1, .int (nI k))]) hx hb d_LazyMachine_run_101 hl rfl ((nI_succ i).symm) (by decide) rfl (fun ls hl => ?_)
            refine lv_goto hx hb d_LazyMachine_run_104 rfl ?_
            have hst : ((r62, (u62.1.2.1 + 1), u62.1.2.2.1, u62.1.2.2.2.1, u62.1.2.2.2.2.1, u62.1.2.2.2.2.2.1, u62.1.2.2.2.2.2.2.1, u62.1.2.2.2.2.2.2.2.1, u62.1.2.2.2.2.2.2.2.2), u62.2.1, u62.2.2.1, u62.2.2.2.1, u62.2.2.2.2) = ma_step N := by
              subst e_r62 w62; unfold ma_step ma_fin; (first | rw [if_pos h58] | rw [if_neg h58]); (first | rw [if_pos h80] | rw [if_neg h80]); rfl
            rw [hst] at hP hD
            exact ih (i + 1) (ma_step N) _ _ _ (by omega) (by exact hI2 N hI h50) (by rw [hq, ma_runN, if_pos h50]) (lv_sub hl [0, 1, 2] rfl) hP hD hS
          · refine lv_aload_n hx hb d_LazyMachine_run_83 rfl (lv_at hl 1 rfl) ?_
            refine va_get (D := (dC, dI)) (ci := 0) (v := .int r62) (C := R_LazyMachine) (T := F_LazyMachine) (N := 13) hx hb hts (fun q hq => List.mem_cons_of_mem _ (i_LazyMachine q hq)) hown hK hP 0 rfl rfl 4 (by decide) (hts _ (List.mem_cons_of_mem _ m_2_11)) (fun _ h9 => h9) rfl d_LazyMachine_run_84 ?_
            refine lv_iconst (v := 2) hx hb d_LazyMachine_run_87 (by decide) ?_
            refine lv_icmp_ne hx hb d_LazyMachine_run_88 rfl (fun h88 => ?_) (fun h88 => ?_)
            · refine lv_iinc (k := 0) (v := (nI (i + 1))) (lv' := [(2, .int (nI (i + 1))), (0, .ref (ad 0)), (1, .int (nI k))]) hx hb d_LazyMachine_run_101 hl rfl ((nI_succ i).symm) (by decide) rfl (fun ls hl => ?_)
              refine lv_goto hx hb d_LazyMachine_run_104 rfl ?_
              have hst : ((r62, u62.1.2.1, u62.1.2.2.1, u62.1.2.2.2.1, u62.1.2.2.2.2.1, u62.1.2.2.2.2.2.1, u62.1.2.2.2.2.2.2.1, u62.1.2.2.2.2.2.2.2.1, u62.1.2.2.2.2.2.2.2.2), u62.2.1, u62.2.2.1, u62.2.2.2.1, u62.2.2.2.2) = ma_step N := by
                subst e_r62 w62; unfold ma_step ma_fin; (first | rw [if_pos h58] | rw [if_neg h58]); (first | rw [if_pos h80] | rw [if_neg h80]); (first | rw [if_pos h88] | rw [if_neg h88]); rfl
              rw [hst] at hP hD
              exact ih (i + 1) (ma_step N) _ _ _ (by omega) (by exact hI2 N hI h50) (by rw [hq, ma_runN, if_pos h50]) (lv_sub hl [0, 1, 2] rfl) hP hD hS
            · refine lv_aload_n hx hb d_LazyMachine_run_91 rfl (lv_at hl 1 rfl) ?_
              refine lv_dup hx hb d_LazyMachine_run_92 rfl ?_
              refine va_get (D := (dC, dI)) (ci := 0) (v := .int u62.1.2.1) (C := R_LazyMachine) (T := F_LazyMachine) (N := 13) hx hb hts (fun q hq => List.mem_cons_of_mem _ (i_LazyMachine q hq)) hown hK hP 0 rfl rfl 5 (by decide) (hts _ (List.mem_cons_of_mem _ m_2_12)) (fun _ h9 => h9) rfl d_LazyMachine_run_93 ?_
              refine lv_iconst (v := 1) hx hb d_LazyMachine_run_96 (by decide) ?_
              refine lv_iadd hx hb d_LazyMachine_run_97 ?_
              refine va_put (D := (dC, dI)) (ci := 0) (v := .int (u62.1.2.1 + 1)) (ty := .int) (C := R_LazyMachine) (T := F_LazyMachine) (N := 13) hx hb hts (fun q hq => List.mem_cons_of_mem _ (i_LazyMachine q hq)) t_LazyMachine t_LazyMachine_ok n_LazyMachine hown hK hP hD hS 0 rfl rfl 5 (by decide) (hts _ (List.mem_cons_of_mem _ m_2_12)) (fun _ h9 => h9) rfl (by decide +kernel) rfl rfl (Nat.le_of_ble_eq_true rfl) d_LazyMachine_run_98 (fun H locs hP hD hS => ?_)
              have hP : va_P (dC, dI) classes (lz_W cA ad ((r62, (u62.1.2.1 + 1), u62.1.2.2.1, u62.1.2.2.2.1, u62.1.2.2.2.2.1, u62.1.2.2.2.2.2.1, u62.1.2.2.2.2.2.2.1, u62.1.2.2.2.2.2.2.2.1, u62.1.2.2.2.2.2.2.2.2), u62.2.1, u62.2.2.1, u62.2.2.2.1, u62.2.2.2.2)) H := hP
              have hD : va_D A (lz_W cA ad ((r62, (u62.1.2.1 + 1), u62.1.2.2.1, u62.1.2.2.2.1, u62.1.2.2.2.2.1, u62.1.2.2.2.2.2.1, u62.1.2.2.2.2.2.2.1, u62.1.2.2.2.2.2.2.2.1, u62.1.2.2.2.2.2.2.2.2), u62.2.1, u62.2.2.1, u62.2.2.2.1, u62.2.2.2.2)) := hD
              refine lv_iinc (k := 0) (v := (nI (i + 1))) (lv' := [(2, .int (nI (i + 1))), (0, .ref (ad 0)), (1, .int (nI k))]) hx hb d_LazyMachine_run_101 hl rfl ((nI_succ i).symm) (by decide) rfl (fun ls hl => ?_)
              refine lv_goto hx hb d_LazyMachine_run_104 rfl ?_
              have hst : ((r62, (u62.1.2.1 + 1), u62.1.2.2.1, u62.1.2.2.2.1, u62.1.2.2.2.2.1, u62.1.2.2.2.2.2.1, u62.1.2.2.2.2.2.2.1, u62.1.2.2.2.2.2.2.2.1, u62.1.2.2.2.2.2.2.2.2), u62.2.1, u62.2.2.1, u62.2.2.2.1, u62.2.2.2.2) = ma_step N := by
                subst e_r62 w62; unfold ma_step ma_fin; (first | rw [if_pos h58] | rw [if_neg h58]); (first | rw [if_pos h80] | rw [if_neg h80]); (first | rw [if_pos h88] | rw [if_neg h88]); rfl
              rw [hst] at hP hD
              exact ih (i + 1) (ma_step N) _ _ _ (by omega) (by exact hI2 N hI h50) (by rw [hq, ma_runN, if_pos h50]) (lv_sub hl [0, 1, 2] rfl) hP hD hS
  exact loop k 0 ((ss, sp, fo, ba, no, en, vs, vf, vg), SM, PM, XM, YM) _ _ _ (by omega) (by exact hI0) (by rw [nI_clamp (by omega)]) hl hP hD hS
end
section
theorem d_LazyMachine_mayBear_0 : decode b_LazyMachine_mayBear 0 = .ok (.iload_n 0, 1) := by decide +kernel
theorem d_LazyMachine_mayBear_1 : decode b_LazyMachine_mayBear 1 = .ok (.ifCond .ne 19, 3) := by decide +kernel
theorem d_LazyMachine_mayBear_4 : decode b_LazyMachine_mayBear 4 = .ok (.iload_n 1, 1) := by decide +kernel
theorem d_LazyMachine_mayBear_5 : decode b_LazyMachine_mayBear 5 = .ok (.ifCond .lt 13, 3) := by decide +kernel
theorem d_LazyMachine_mayBear_8 : decode b_LazyMachine_mayBear 8 = .ok (.iload_n 1, 1) := by decide +kernel
theorem d_LazyMachine_mayBear_9 : decode b_LazyMachine_mayBear 9 = .ok (.bipush 40, 2) := by decide +kernel
theorem d_LazyMachine_mayBear_11 : decode b_LazyMachine_mayBear 11 = .ok (.if_icmp .gt 7, 3) := by decide +kernel
theorem d_LazyMachine_mayBear_14 : decode b_LazyMachine_mayBear 14 = .ok (.iconst 1, 1) := by decide +kernel
theorem d_LazyMachine_mayBear_15 : decode b_LazyMachine_mayBear 15 = .ok (.goto 4, 3) := by decide +kernel
theorem d_LazyMachine_mayBear_18 : decode b_LazyMachine_mayBear 18 = .ok (.iconst 0, 1) := by decide +kernel
theorem d_LazyMachine_mayBear_19 : decode b_LazyMachine_mayBear 19 = .ok (.ireturn, 1) := by decide +kernel
theorem d_LazyMachine_mayBear_20 : decode b_LazyMachine_mayBear 20 = .ok (.iload_n 0, 1) := by decide +kernel
theorem d_LazyMachine_mayBear_21 : decode b_LazyMachine_mayBear 21 = .ok (.iconst 3, 1) := by decide +kernel
theorem d_LazyMachine_mayBear_22 : decode b_LazyMachine_mayBear 22 = .ok (.if_icmp .eq 7, 3) := by decide +kernel
theorem d_LazyMachine_mayBear_25 : decode b_LazyMachine_mayBear 25 = .ok (.iload_n 1, 1) := by decide +kernel
theorem d_LazyMachine_mayBear_26 : decode b_LazyMachine_mayBear 26 = .ok (.ifCond .ne 7, 3) := by decide +kernel
theorem d_LazyMachine_mayBear_29 : decode b_LazyMachine_mayBear 29 = .ok (.iconst 1, 1) := by decide +kernel
theorem d_LazyMachine_mayBear_30 : decode b_LazyMachine_mayBear 30 = .ok (.goto 4, 3) := by decide +kernel
theorem d_LazyMachine_mayBear_33 : decode b_LazyMachine_mayBear 33 = .ok (.iconst 0, 1) := by decide +kernel
theorem d_LazyMachine_mayBear_34 : decode b_LazyMachine_mayBear 34 = .ok (.ireturn, 1) := by decide +kernel
theorem d_LazyMachine_put_0 : decode b_LazyMachine_put 0 = .ok (.iload_n 1, 1) := by decide +kernel
theorem d_LazyMachine_put_1 : decode b_LazyMachine_put 1 = .ok (.ifCond .lt 9, 3) := by decide +kernel
theorem d_LazyMachine_put_4 : decode b_LazyMachine_put 4 = .ok (.iload_n 1, 1) := by decide +kernel
theorem d_LazyMachine_put_5 : decode b_LazyMachine_put 5 = .ok (.bipush 13, 2) := by decide +kernel
theorem d_LazyMachine_put_7 : decode b_LazyMachine_put 7 = .ok (.if_icmp .le 13, 3) := by decide +kernel
theorem d_LazyMachine_put_10 : decode b_LazyMachine_put 10 = .ok (.new 46, 3) := by decide +kernel
theorem d_LazyMachine_put_13 : decode b_LazyMachine_put 13 = .ok (.dup, 1) := by decide +kernel
theorem d_LazyMachine_put_14 : decode b_LazyMachine_put 14 = .ok (.ldc 48, 2) := by decide +kernel
theorem d_LazyMachine_put_16 : decode b_LazyMachine_put 16 = .ok (.invokespecial 50, 3) := by decide +kernel
theorem d_LazyMachine_put_19 : decode b_LazyMachine_put 19 = .ok (.athrow, 1) := by decide +kernel
theorem d_LazyMachine_put_20 : decode b_LazyMachine_put 20 = .ok (.iload_n 1, 1) := by decide +kernel
theorem d_LazyMachine_put_21 : decode b_LazyMachine_put 21 = .ok (.iload_n 2, 1) := by decide +kernel
theorem d_LazyMachine_put_22 : decode b_LazyMachine_put 22 = .ok (.invokestatic 53, 3) := by decide +kernel
theorem d_LazyMachine_put_25 : decode b_LazyMachine_put 25 = .ok (.ifCond .ne 13, 3) := by decide +kernel
theorem d_LazyMachine_put_28 : decode b_LazyMachine_put 28 = .ok (.new 46, 3) := by decide +kernel
theorem d_LazyMachine_put_31 : decode b_LazyMachine_put 31 = .ok (.dup, 1) := by decide +kernel
theorem d_LazyMachine_put_32 : decode b_LazyMachine_put 32 = .ok (.ldc 57, 2) := by decide +kernel
theorem d_LazyMachine_put_34 : decode b_LazyMachine_put 34 = .ok (.invokespecial 50, 3) := by decide +kernel
theorem d_LazyMachine_put_37 : decode b_LazyMachine_put 37 = .ok (.athrow, 1) := by decide +kernel
theorem d_LazyMachine_put_38 : decode b_LazyMachine_put 38 = .ok (.aload_n 0, 1) := by decide +kernel
theorem d_LazyMachine_put_39 : decode b_LazyMachine_put 39 = .ok (.getfield 26, 3) := by decide +kernel
theorem d_LazyMachine_put_42 : decode b_LazyMachine_put 42 = .ok (.iload_n 1, 1) := by decide +kernel
theorem d_LazyMachine_put_43 : decode b_LazyMachine_put 43 = .ok (.iload_n 2, 1) := by decide +kernel
theorem d_LazyMachine_put_44 : decode b_LazyMachine_put 44 = .ok (.invokevirtual 59, 3) := by decide +kernel
theorem d_LazyMachine_put_47 : decode b_LazyMachine_put 47 = .ok (.ifCond .eq 13, 3) := by decide +kernel
theorem d_LazyMachine_put_50 : decode b_LazyMachine_put 50 = .ok (.aload_n 0, 1) := by decide +kernel
theorem d_LazyMachine_put_51 : decode b_LazyMachine_put 51 = .ok (.getfield 26, 3) := by decide +kernel
theorem d_LazyMachine_put_54 : decode b_LazyMachine_put 54 = .ok (.invokevirtual 62, 3) := by decide +kernel
theorem d_LazyMachine_put_57 : decode b_LazyMachine_put 57 = .ok (.goto 4, 3) := by decide +kernel
theorem d_LazyMachine_put_60 : decode b_LazyMachine_put 60 = .ok (.iconst (-1), 1) := by decide +kernel
theorem d_LazyMachine_put_61 : decode b_LazyMachine_put 61 = .ok (.ireturn, 1) := by decide +kernel
theorem d_LazyMachine_load_0 : decode b_LazyMachine_load 0 = .ok (.aload_n 0, 1) := by decide +kernel
theorem d_LazyMachine_load_1 : decode b_LazyMachine_load 1 = .ok (.getfield 26, 3) := by decide +kernel
theorem d_LazyMachine_load_4 : decode b_LazyMachine_load 4 = .ok (.invokevirtual 66, 3) := by decide +kernel
theorem d_LazyMachine_load_7 : decode b_LazyMachine_load 7 = .ok (.istore_n 1, 1) := by decide +kernel
theorem d_LazyMachine_load_8 : decode b_LazyMachine_load 8 = .ok (.aload_n 0, 1) := by decide +kernel
theorem d_LazyMachine_load_9 : decode b_LazyMachine_load 9 = .ok (.getfield 26, 3) := by decide +kernel
theorem d_LazyMachine_load_12 : decode b_LazyMachine_load 12 = .ok (.astore_n 2, 1) := by decide +kernel
theorem d_LazyMachine_load_13 : decode b_LazyMachine_load 13 = .ok (.aload_n 0, 1) := by decide +kernel
theorem d_LazyMachine_load_14 : decode b_LazyMachine_load 14 = .ok (.aload_n 0, 1) := by decide +kernel
theorem d_LazyMachine_load_15 : decode b_LazyMachine_load 15 = .ok (.getfield 30, 3) := by decide +kernel
theorem d_LazyMachine_load_18 : decode b_LazyMachine_load 18 = .ok (.putfield 26, 3) := by decide +kernel
theorem d_LazyMachine_load_21 : decode b_LazyMachine_load 21 = .ok (.aload_n 0, 1) := by decide +kernel
theorem d_LazyMachine_load_22 : decode b_LazyMachine_load 22 = .ok (.aload_n 2, 1) := by decide +kernel
theorem d_LazyMachine_load_23 : decode b_LazyMachine_load 23 = .ok (.putfield 30, 3) := by decide +kernel
theorem d_LazyMachine_load_26 : decode b_LazyMachine_load 26 = .ok (.aload_n 0, 1) := by decide +kernel
theorem d_LazyMachine_load_27 : decode b_LazyMachine_load 27 = .ok (.getfield 26, 3) := by decide +kernel
theorem d_LazyMachine_load_30 : decode b_LazyMachine_load 30 = .ok (.invokevirtual 69, 3) := by decide +kernel
theorem d_LazyMachine_load_33 : decode b_LazyMachine_load 33 = .ok (.iload_n 1, 1) := by decide +kernel
theorem d_LazyMachine_load_34 : decode b_LazyMachine_load 34 = .ok (.ifCond .eq 10, 3) := by decide +kernel
theorem d_LazyMachine_load_37 : decode b_LazyMachine_load 37 = .ok (.aload_n 0, 1) := by decide +kernel
theorem d_LazyMachine_load_38 : decode b_LazyMachine_load 38 = .ok (.getfield 30, 3) := by decide +kernel
theorem d_LazyMachine_load_41 : decode b_LazyMachine_load 41 = .ok (.invokevirtual 69, 3) := by decide +kernel
theorem d_LazyMachine_load_44 : decode b_LazyMachine_load 44 = .ok (.aload_n 0, 1) := by decide +kernel
theorem d_LazyMachine_load_45 : decode b_LazyMachine_load 45 = .ok (.iload_n 1, 1) := by decide +kernel
theorem d_LazyMachine_load_46 : decode b_LazyMachine_load 46 = .ok (.ifCond .ne 7, 3) := by decide +kernel
theorem d_LazyMachine_load_49 : decode b_LazyMachine_load 49 = .ok (.iconst 1, 1) := by decide +kernel
theorem d_LazyMachine_load_50 : decode b_LazyMachine_load 50 = .ok (.goto 4, 3) := by decide +kernel
theorem d_LazyMachine_load_53 : decode b_LazyMachine_load 53 = .ok (.iconst 0, 1) := by decide +kernel
theorem d_LazyMachine_load_54 : decode b_LazyMachine_load 54 = .ok (.invokevirtual 72, 3) := by decide +kernel
theorem d_LazyMachine_load_57 : decode b_LazyMachine_load 57 = .ok (.iload_n 1, 1) := by decide +kernel
theorem d_LazyMachine_load_58 : decode b_LazyMachine_load 58 = .ok (.ireturn, 1) := by decide +kernel
theorem d_LazyMachine_restart_0 : decode b_LazyMachine_restart 0 = .ok (.aload_n 0, 1) := by decide +kernel
theorem d_LazyMachine_restart_1 : decode b_LazyMachine_restart 1 = .ok (.getfield 33, 3) := by decide +kernel
theorem d_LazyMachine_restart_4 : decode b_LazyMachine_restart 4 = .ok (.ifCond .ne 13, 3) := by decide +kernel
theorem d_LazyMachine_restart_7 : decode b_LazyMachine_restart 7 = .ok (.new 76, 3) := by decide +kernel
theorem d_LazyMachine_restart_10 : decode b_LazyMachine_restart 10 = .ok (.dup, 1) := by decide +kernel
theorem d_LazyMachine_restart_11 : decode b_LazyMachine_restart 11 = .ok (.ldc 78, 2) := by decide +kernel
theorem d_LazyMachine_restart_13 : decode b_LazyMachine_restart 13 = .ok (.invokespecial 80, 3) := by decide +kernel
theorem d_LazyMachine_restart_16 : decode b_LazyMachine_restart 16 = .ok (.athrow, 1) := by decide +kernel
theorem d_LazyMachine_restart_17 : decode b_LazyMachine_restart 17 = .ok (.aload_n 0, 1) := by decide +kernel
theorem d_LazyMachine_restart_18 : decode b_LazyMachine_restart 18 = .ok (.iconst 1, 1) := by decide +kernel
theorem d_LazyMachine_restart_19 : decode b_LazyMachine_restart 19 = .ok (.invokevirtual 72, 3) := by decide +kernel
theorem d_LazyMachine_restart_22 : decode b_LazyMachine_restart 22 = .ok (.return_, 1) := by decide +kernel
theorem d_LazyMachine_result_0 : decode b_LazyMachine_result 0 = .ok (.aload_n 0, 1) := by decide +kernel
theorem d_LazyMachine_result_1 : decode b_LazyMachine_result 1 = .ok (.getfield 33, 3) := by decide +kernel
theorem d_LazyMachine_result_4 : decode b_LazyMachine_result 4 = .ok (.iconst 2, 1) := by decide +kernel
theorem d_LazyMachine_result_5 : decode b_LazyMachine_result 5 = .ok (.if_icmp .eq 13, 3) := by decide +kernel
theorem d_LazyMachine_result_8 : decode b_LazyMachine_result 8 = .ok (.new 76, 3) := by decide +kernel
theorem d_LazyMachine_result_11 : decode b_LazyMachine_result 11 = .ok (.dup, 1) := by decide +kernel
theorem d_LazyMachine_result_12 : decode b_LazyMachine_result 12 = .ok (.ldc 96, 2) := by decide +kernel
theorem d_LazyMachine_result_14 : decode b_LazyMachine_result 14 = .ok (.invokespecial 80, 3) := by decide +kernel
theorem d_LazyMachine_result_17 : decode b_LazyMachine_result 17 = .ok (.athrow, 1) := by decide +kernel
theorem d_LazyMachine_result_18 : decode b_LazyMachine_result 18 = .ok (.iload_n 1, 1) := by decide +kernel
theorem d_LazyMachine_result_19 : decode b_LazyMachine_result 19 = .ok (.ifCond .ne 8, 3) := by decide +kernel
theorem d_LazyMachine_result_22 : decode b_LazyMachine_result 22 = .ok (.aload_n 0, 1) := by decide +kernel
theorem d_LazyMachine_result_23 : decode b_LazyMachine_result 23 = .ok (.getfield 98, 3) := by decide +kernel
theorem d_LazyMachine_result_26 : decode b_LazyMachine_result 26 = .ok (.ireturn, 1) := by decide +kernel
theorem d_LazyMachine_result_27 : decode b_LazyMachine_result 27 = .ok (.iload_n 1, 1) := by decide +kernel
theorem d_LazyMachine_result_28 : decode b_LazyMachine_result 28 = .ok (.iconst 1, 1) := by decide +kernel
theorem d_LazyMachine_result_29 : decode b_LazyMachine_result 29 = .ok (.if_icmp .ne 10, 3) := by decide +kernel
theorem d_LazyMachine_result_32 : decode b_LazyMachine_result 32 = .ok (.aload_n 0, 1) := by decide +kernel
theorem d_LazyMachine_result_33 : decode b_LazyMachine_result 33 = .ok (.getfield 98, 3) := by decide +kernel
theorem d_LazyMachine_result_36 : decode b_LazyMachine_result 36 = .ok (.ifCond .eq 16, 3) := by decide +kernel
theorem d_LazyMachine_result_39 : decode b_LazyMachine_result 39 = .ok (.iload_n 1, 1) := by decide +kernel
theorem d_LazyMachine_result_40 : decode b_LazyMachine_result 40 = .ok (.iconst 2, 1) := by decide +kernel
theorem d_LazyMachine_result_41 : decode b_LazyMachine_result 41 = .ok (.if_icmp .ne 15, 3) := by decide +kernel
theorem d_LazyMachine_result_44 : decode b_LazyMachine_result 44 = .ok (.aload_n 0, 1) := by decide +kernel
theorem d_LazyMachine_result_45 : decode b_LazyMachine_result 45 = .ok (.getfield 98, 3) := by decide +kernel
theorem d_LazyMachine_result_48 : decode b_LazyMachine_result 48 = .ok (.iconst 1, 1) := by decide +kernel
theorem d_LazyMachine_result_49 : decode b_LazyMachine_result 49 = .ok (.if_icmp .ne 7, 3) := by decide +kernel
theorem d_LazyMachine_result_52 : decode b_LazyMachine_result 52 = .ok (.iconst 1, 1) := by decide +kernel
theorem d_LazyMachine_result_53 : decode b_LazyMachine_result 53 = .ok (.goto 4, 3) := by decide +kernel
theorem d_LazyMachine_result_56 : decode b_LazyMachine_result 56 = .ok (.iconst 0, 1) := by decide +kernel
theorem d_LazyMachine_result_57 : decode b_LazyMachine_result 57 = .ok (.istore_n 2, 1) := by decide +kernel
theorem d_LazyMachine_result_58 : decode b_LazyMachine_result 58 = .ok (.iload_n 2, 1) := by decide +kernel
theorem d_LazyMachine_result_59 : decode b_LazyMachine_result 59 = .ok (.ifCond .eq 10, 3) := by decide +kernel
theorem d_LazyMachine_result_62 : decode b_LazyMachine_result 62 = .ok (.aload_n 0, 1) := by decide +kernel
theorem d_LazyMachine_result_63 : decode b_LazyMachine_result 63 = .ok (.getfield 40, 3) := by decide +kernel
theorem d_LazyMachine_result_66 : decode b_LazyMachine_result 66 = .ok (.goto 4, 3) := by decide +kernel
theorem d_LazyMachine_result_69 : decode b_LazyMachine_result 69 = .ok (.iconst (-1), 1) := by decide +kernel
theorem d_LazyMachine_result_70 : decode b_LazyMachine_result 70 = .ok (.ireturn, 1) := by decide +kernel
theorem d_LazyMachine_into_0 : decode b_LazyMachine_into 0 = .ok (.aload_n 0, 1) := by decide +kernel
theorem d_LazyMachine_into_1 : decode b_LazyMachine_into 1 = .ok (.getfield 33, 3) := by decide +kernel
theorem d_LazyMachine_into_4 : decode b_LazyMachine_into 4 = .ok (.iconst 2, 1) := by decide +kernel
theorem d_LazyMachine_into_5 : decode b_LazyMachine_into 5 = .ok (.if_icmp .ne 11, 3) := by decide +kernel
theorem d_LazyMachine_into_8 : decode b_LazyMachine_into 8 = .ok (.aload_n 0, 1) := by decide +kernel
theorem d_LazyMachine_into_9 : decode b_LazyMachine_into 9 = .ok (.getfield 98, 3) := by decide +kernel
theorem d_LazyMachine_into_12 : decode b_LazyMachine_into 12 = .ok (.iconst 2, 1) := by decide +kernel
theorem d_LazyMachine_into_13 : decode b_LazyMachine_into 13 = .ok (.if_icmp .eq 13, 3) := by decide +kernel
theorem d_LazyMachine_into_16 : decode b_LazyMachine_into 16 = .ok (.new 76, 3) := by decide +kernel
theorem d_LazyMachine_into_19 : decode b_LazyMachine_into 19 = .ok (.dup, 1) := by decide +kernel
theorem d_LazyMachine_into_20 : decode b_LazyMachine_into 20 = .ok (.ldc 101, 2) := by decide +kernel
theorem d_LazyMachine_into_22 : decode b_LazyMachine_into 22 = .ok (.invokespecial 80, 3) := by decide +kernel
theorem d_LazyMachine_into_25 : decode b_LazyMachine_into 25 = .ok (.athrow, 1) := by decide +kernel
theorem d_LazyMachine_into_26 : decode b_LazyMachine_into 26 = .ok (.iload_n 1, 1) := by decide +kernel
theorem d_LazyMachine_into_27 : decode b_LazyMachine_into 27 = .ok (.ifCond .eq 18, 3) := by decide +kernel
theorem d_LazyMachine_into_30 : decode b_LazyMachine_into 30 = .ok (.iload_n 1, 1) := by decide +kernel
theorem d_LazyMachine_into_31 : decode b_LazyMachine_into 31 = .ok (.iconst 1, 1) := by decide +kernel
theorem d_LazyMachine_into_32 : decode b_LazyMachine_into 32 = .ok (.if_icmp .eq 13, 3) := by decide +kernel
theorem d_LazyMachine_into_35 : decode b_LazyMachine_into 35 = .ok (.new 46, 3) := by decide +kernel
theorem d_LazyMachine_into_38 : decode b_LazyMachine_into 38 = .ok (.dup, 1) := by decide +kernel
theorem d_LazyMachine_into_39 : decode b_LazyMachine_into 39 = .ok (.ldc 103, 2) := by decide +kernel
theorem d_LazyMachine_into_41 : decode b_LazyMachine_into 41 = .ok (.invokespecial 50, 3) := by decide +kernel
theorem d_LazyMachine_into_44 : decode b_LazyMachine_into 44 = .ok (.athrow, 1) := by decide +kernel
theorem d_LazyMachine_into_45 : decode b_LazyMachine_into 45 = .ok (.aload_n 0, 1) := by decide +kernel
theorem d_LazyMachine_into_46 : decode b_LazyMachine_into 46 = .ok (.aload_n 0, 1) := by decide +kernel
theorem d_LazyMachine_into_47 : decode b_LazyMachine_into 47 = .ok (.iload_n 1, 1) := by decide +kernel
theorem d_LazyMachine_into_48 : decode b_LazyMachine_into 48 = .ok (.ifCond .ne 10, 3) := by decide +kernel
theorem d_LazyMachine_into_51 : decode b_LazyMachine_into 51 = .ok (.aload_n 0, 1) := by decide +kernel
theorem d_LazyMachine_into_52 : decode b_LazyMachine_into 52 = .ok (.getfield 40, 3) := by decide +kernel
theorem d_LazyMachine_into_55 : decode b_LazyMachine_into 55 = .ok (.goto 7, 3) := by decide +kernel
theorem d_LazyMachine_into_58 : decode b_LazyMachine_into 58 = .ok (.aload_n 0, 1) := by decide +kernel
theorem d_LazyMachine_into_59 : decode b_LazyMachine_into 59 = .ok (.getfield 43, 3) := by decide +kernel
theorem d_LazyMachine_into_62 : decode b_LazyMachine_into 62 = .ok (.invokevirtual 105, 3) := by decide +kernel
theorem d_LazyMachine_into_65 : decode b_LazyMachine_into 65 = .ok (.putfield 33, 3) := by decide +kernel
theorem d_LazyMachine_into_68 : decode b_LazyMachine_into 68 = .ok (.aload_n 0, 1) := by decide +kernel
theorem d_LazyMachine_into_69 : decode b_LazyMachine_into 69 = .ok (.getfield 33, 3) := by decide +kernel
theorem d_LazyMachine_into_72 : decode b_LazyMachine_into 72 = .ok (.ireturn, 1) := by decide +kernel
theorem d_LazyMachine_apply_0 : decode b_LazyMachine_apply 0 = .ok (.aload_n 0, 1) := by decide +kernel
theorem d_LazyMachine_apply_1 : decode b_LazyMachine_apply 1 = .ok (.getfield 33, 3) := by decide +kernel
theorem d_LazyMachine_apply_4 : decode b_LazyMachine_apply 4 = .ok (.iconst 2, 1) := by decide +kernel
theorem d_LazyMachine_apply_5 : decode b_LazyMachine_apply 5 = .ok (.if_icmp .ne 11, 3) := by decide +kernel
theorem d_LazyMachine_apply_8 : decode b_LazyMachine_apply 8 = .ok (.aload_n 0, 1) := by decide +kernel
theorem d_LazyMachine_apply_9 : decode b_LazyMachine_apply 9 = .ok (.getfield 98, 3) := by decide +kernel
theorem d_LazyMachine_apply_12 : decode b_LazyMachine_apply 12 = .ok (.iconst 1, 1) := by decide +kernel
theorem d_LazyMachine_apply_13 : decode b_LazyMachine_apply 13 = .ok (.if_icmp .eq 13, 3) := by decide +kernel
theorem d_LazyMachine_apply_16 : decode b_LazyMachine_apply 16 = .ok (.new 76, 3) := by decide +kernel
theorem d_LazyMachine_apply_19 : decode b_LazyMachine_apply 19 = .ok (.dup, 1) := by decide +kernel
theorem d_LazyMachine_apply_20 : decode b_LazyMachine_apply 20 = .ok (.ldc 109, 2) := by decide +kernel
theorem d_LazyMachine_apply_22 : decode b_LazyMachine_apply 22 = .ok (.invokespecial 80, 3) := by decide +kernel
theorem d_LazyMachine_apply_25 : decode b_LazyMachine_apply 25 = .ok (.athrow, 1) := by decide +kernel
theorem d_LazyMachine_apply_26 : decode b_LazyMachine_apply 26 = .ok (.aload_n 0, 1) := by decide +kernel
theorem d_LazyMachine_apply_27 : decode b_LazyMachine_apply 27 = .ok (.iconst 2, 1) := by decide +kernel
theorem d_LazyMachine_apply_28 : decode b_LazyMachine_apply 28 = .ok (.invokevirtual 111, 3) := by decide +kernel
theorem d_LazyMachine_apply_31 : decode b_LazyMachine_apply 31 = .ok (.ifCond .eq 25, 3) := by decide +kernel
theorem d_LazyMachine_apply_34 : decode b_LazyMachine_apply 34 = .ok (.aload_n 0, 1) := by decide +kernel
theorem d_LazyMachine_apply_35 : decode b_LazyMachine_apply 35 = .ok (.aload_n 0, 1) := by decide +kernel
theorem d_LazyMachine_apply_36 : decode b_LazyMachine_apply 36 = .ok (.getfield 10, 3) := by decide +kernel
theorem d_LazyMachine_apply_39 : decode b_LazyMachine_apply 39 = .ok (.iconst 0, 1) := by decide +kernel
theorem d_LazyMachine_apply_40 : decode b_LazyMachine_apply 40 = .ok (.iload_n 1, 1) := by decide +kernel
theorem d_LazyMachine_apply_41 : decode b_LazyMachine_apply 41 = .ok (.iconst (-1), 1) := by decide +kernel
theorem d_LazyMachine_apply_42 : decode b_LazyMachine_apply 42 = .ok (.invokevirtual 115, 3) := by decide +kernel
theorem d_LazyMachine_apply_45 : decode b_LazyMachine_apply 45 = .ok (.invokevirtual 119, 3) := by decide +kernel
theorem d_LazyMachine_apply_48 : decode b_LazyMachine_apply 48 = .ok (.aload_n 0, 1) := by decide +kernel
theorem d_LazyMachine_apply_49 : decode b_LazyMachine_apply 49 = .ok (.iconst 1, 1) := by decide +kernel
theorem d_LazyMachine_apply_50 : decode b_LazyMachine_apply 50 = .ok (.putfield 33, 3) := by decide +kernel
theorem d_LazyMachine_apply_53 : decode b_LazyMachine_apply 53 = .ok (.goto 9, 3) := by decide +kernel
theorem d_LazyMachine_apply_56 : decode b_LazyMachine_apply 56 = .ok (.aload_n 0, 1) := by decide +kernel
theorem d_LazyMachine_apply_57 : decode b_LazyMachine_apply 57 = .ok (.bipush 6, 2) := by decide +kernel
theorem d_LazyMachine_apply_59 : decode b_LazyMachine_apply 59 = .ok (.putfield 33, 3) := by decide +kernel
theorem d_LazyMachine_apply_62 : decode b_LazyMachine_apply 62 = .ok (.aload_n 0, 1) := by decide +kernel
theorem d_LazyMachine_apply_63 : decode b_LazyMachine_apply 63 = .ok (.getfield 33, 3) := by decide +kernel
theorem d_LazyMachine_apply_66 : decode b_LazyMachine_apply 66 = .ok (.ireturn, 1) := by decide +kernel
theorem d_LazyMachine_count_0 : decode b_LazyMachine_count 0 = .ok (.iload_n 1, 1) := by decide +kernel
theorem d_LazyMachine_count_1 : decode b_LazyMachine_count 1 = .ok (.tableswitch 133 0 8 #[51, 59, 67, 72, 77, 82, 90, 102, 125], 51) := by decide +kernel
theorem d_LazyMachine_count_52 : decode b_LazyMachine_count 52 = .ok (.aload_n 0, 1) := by decide +kernel
theorem d_LazyMachine_count_53 : decode b_LazyMachine_count 53 = .ok (.getfield 26, 3) := by decide +kernel
theorem d_LazyMachine_count_56 : decode b_LazyMachine_count 56 = .ok (.invokevirtual 62, 3) := by decide +kernel
theorem d_LazyMachine_count_59 : decode b_LazyMachine_count 59 = .ok (.ireturn, 1) := by decide +kernel
theorem d_LazyMachine_count_60 : decode b_LazyMachine_count 60 = .ok (.aload_n 0, 1) := by decide +kernel
theorem d_LazyMachine_count_61 : decode b_LazyMachine_count 61 = .ok (.getfield 30, 3) := by decide +kernel
theorem d_LazyMachine_count_64 : decode b_LazyMachine_count 64 = .ok (.invokevirtual 62, 3) := by decide +kernel
theorem d_LazyMachine_count_67 : decode b_LazyMachine_count 67 = .ok (.ireturn, 1) := by decide +kernel
theorem d_LazyMachine_count_68 : decode b_LazyMachine_count 68 = .ok (.aload_n 0, 1) := by decide +kernel
theorem d_LazyMachine_count_69 : decode b_LazyMachine_count 69 = .ok (.getfield 33, 3) := by decide +kernel
theorem d_LazyMachine_count_72 : decode b_LazyMachine_count 72 = .ok (.ireturn, 1) := by decide +kernel
theorem d_LazyMachine_count_73 : decode b_LazyMachine_count 73 = .ok (.aload_n 0, 1) := by decide +kernel
theorem d_LazyMachine_count_74 : decode b_LazyMachine_count 74 = .ok (.getfield 93, 3) := by decide +kernel
theorem d_LazyMachine_count_77 : decode b_LazyMachine_count 77 = .ok (.ireturn, 1) := by decide +kernel
theorem d_LazyMachine_count_78 : decode b_LazyMachine_count 78 = .ok (.aload_n 0, 1) := by decide +kernel
theorem d_LazyMachine_count_79 : decode b_LazyMachine_count 79 = .ok (.getfield 122, 3) := by decide +kernel
theorem d_LazyMachine_count_82 : decode b_LazyMachine_count 82 = .ok (.ireturn, 1) := by decide +kernel
theorem d_LazyMachine_count_83 : decode b_LazyMachine_count 83 = .ok (.aload_n 0, 1) := by decide +kernel
theorem d_LazyMachine_count_84 : decode b_LazyMachine_count 84 = .ok (.getfield 19, 3) := by decide +kernel
theorem d_LazyMachine_count_87 : decode b_LazyMachine_count 87 = .ok (.invokevirtual 125, 3) := by decide +kernel
theorem d_LazyMachine_count_90 : decode b_LazyMachine_count 90 = .ok (.ireturn, 1) := by decide +kernel
theorem d_LazyMachine_count_91 : decode b_LazyMachine_count 91 = .ok (.aload_n 0, 1) := by decide +kernel
theorem d_LazyMachine_count_92 : decode b_LazyMachine_count 92 = .ok (.invokevirtual 126, 3) := by decide +kernel
theorem d_LazyMachine_count_95 : decode b_LazyMachine_count 95 = .ok (.aload_n 0, 1) := by decide +kernel
theorem d_LazyMachine_count_96 : decode b_LazyMachine_count 96 = .ok (.getfield 10, 3) := by decide +kernel
theorem d_LazyMachine_count_99 : decode b_LazyMachine_count 99 = .ok (.invokevirtual 129, 3) := by decide +kernel
theorem d_LazyMachine_count_102 : decode b_LazyMachine_count 102 = .ok (.ireturn, 1) := by decide +kernel
theorem d_LazyMachine_count_103 : decode b_LazyMachine_count 103 = .ok (.aload_n 0, 1) := by decide +kernel
theorem d_LazyMachine_count_104 : decode b_LazyMachine_count 104 = .ok (.getfield 33, 3) := by decide +kernel
theorem d_LazyMachine_count_107 : decode b_LazyMachine_count 107 = .ok (.ifCond .eq 10, 3) := by decide +kernel
theorem d_LazyMachine_count_110 : decode b_LazyMachine_count 110 = .ok (.aload_n 0, 1) := by decide +kernel
theorem d_LazyMachine_count_111 : decode b_LazyMachine_count 111 = .ok (.getfield 83, 3) := by decide +kernel
theorem d_LazyMachine_count_114 : decode b_LazyMachine_count 114 = .ok (.ifCond .eq 7, 3) := by decide +kernel
theorem d_LazyMachine_count_117 : decode b_LazyMachine_count 117 = .ok (.iconst (-1), 1) := by decide +kernel
theorem d_LazyMachine_count_118 : decode b_LazyMachine_count 118 = .ok (.goto 7, 3) := by decide +kernel
theorem d_LazyMachine_count_121 : decode b_LazyMachine_count 121 = .ok (.aload_n 0, 1) := by decide +kernel
theorem d_LazyMachine_count_122 : decode b_LazyMachine_count 122 = .ok (.getfield 132, 3) := by decide +kernel
theorem d_LazyMachine_count_125 : decode b_LazyMachine_count 125 = .ok (.ireturn, 1) := by decide +kernel
theorem d_LazyMachine_count_126 : decode b_LazyMachine_count 126 = .ok (.aload_n 0, 1) := by decide +kernel
theorem d_LazyMachine_count_127 : decode b_LazyMachine_count 127 = .ok (.getfield 19, 3) := by decide +kernel
theorem d_LazyMachine_count_130 : decode b_LazyMachine_count 130 = .ok (.invokevirtual 135, 3) := by decide +kernel
theorem d_LazyMachine_count_133 : decode b_LazyMachine_count 133 = .ok (.ireturn, 1) := by decide +kernel
theorem d_LazyMachine_count_134 : decode b_LazyMachine_count 134 = .ok (.iconst (-1), 1) := by decide +kernel
theorem d_LazyMachine_count_135 : decode b_LazyMachine_count 135 = .ok (.ireturn, 1) := by decide +kernel
end
section
set_option maxHeartbeats 4000000 in
set_option maxRecDepth 100000 in
theorem c_LazyMachine_mayBear (l : Launch) (dC : Nat → ClassId) (dI : Nat → Nat → Nat) (cA : ClassId)   (sz : Nat)  (y1 y2 : Int32)  : Met l y_LazyMachine_mayBear w_LazyMachine_mayBear ({ frames := 0, cells := 0, slots := 0, locals := 0 } : Room) (va_Pc [.int y1, .int y2] (lm_pre (dC, dI) classes [(cA, .int)] (([] : va_W)) sz lm_no)) (va_Qi (fun (r : Int32) (u : Unit) => r = ma_may y1 y2 ∧ u = ()) (fun u => lm_at (dC, dI) classes [(cA, .int)] (va_A (([] : va_W)) sz) (([] : va_W))) (va_A (([] : va_W)) sz)) 0 0 (va_A (([] : va_W)) sz) := by
  refine lm_met (fun A => va_Qi (fun (r : Int32) (u : Unit) => r = ma_may y1 y2 ∧ u = ()) (fun u => lm_at (dC, dI) classes [(cA, .int)] A (([] : va_W))) A) (by decide) rfl (Nat.le_of_ble_eq_true rfl) ?_
  intro p e s m below meth c A hx hb hr hts hown hlocks hname hml hK hP hD hA hE hsz hAe hS ls hl
  replace hl : lv_has ls 2 [(0, .int y1), (1, .int y2)] := hl
  clear hAe hsz
  refine lv_iload_n hx hb d_LazyMachine_mayBear_0 rfl (lv_at hl 0 rfl) ?_
  refine lv_if_ne hx hb d_LazyMachine_mayBear_1 rfl (fun h1 => ?_) (fun h1 => ?_)
  · refine lv_iload_n hx hb d_LazyMachine_mayBear_20 rfl (lv_at hl 0 rfl) ?_
    refine lv_iconst (v := 3) hx hb d_LazyMachine_mayBear_21 (by decide) ?_
    refine lv_icmp_eq hx hb d_LazyMachine_mayBear_22 rfl (fun h22 => ?_) (fun h22 => ?_)
    · refine lv_iconst (v := 1) hx hb d_LazyMachine_mayBear_29 (by decide) ?_
      refine lv_goto hx hb d_LazyMachine_mayBear_30 rfl ?_
      refine lm_rz (v := 1) hx hb hr hlocks (by decide) () ?_ hP hK hD hS d_LazyMachine_mayBear_34
      unfold ma_may; (first | rw [if_pos h1] | rw [if_neg h1]); (first | rw [if_pos h22] | rw [if_neg h22]); exact ⟨rfl, rfl⟩
    · refine lv_iload_n hx hb d_LazyMachine_mayBear_25 rfl (lv_at hl 1 rfl) ?_
      refine lv_if_ne hx hb d_LazyMachine_mayBear_26 rfl (fun h26 => ?_) (fun h26 => ?_)
      · refine lv_iconst (v := 0) hx hb d_LazyMachine_mayBear_33 (by decide) ?_
        refine lm_rz (v := 0) hx hb hr hlocks (by decide) () ?_ hP hK hD hS d_LazyMachine_mayBear_34
        unfold ma_may; (first | rw [if_pos h1] | rw [if_neg h1]); (first | rw [if_pos h22] | rw [if_neg h22]); (first | rw [if_pos h26] | rw [if_neg h26]); exact ⟨rfl, rfl⟩
      · refine lv_iconst (v := 1) hx hb d_LazyMachine_mayBear_29 (by decide) ?_
        refine lv_goto hx hb d_LazyMachine_mayBear_30 rfl ?_
        refine lm_rz (v := 1) hx hb hr hlocks (by decide) () ?_ hP hK hD hS d_LazyMachine_mayBear_34
        unfold ma_may; (first | rw [if_pos h1] | rw [if_neg h1]); (first | rw [if_pos h22] | rw [if_neg h22]); (first | rw [if_pos h26] | rw [if_neg h26]); exact ⟨rfl, rfl⟩
  · refine lv_iload_n hx hb d_LazyMachine_mayBear_4 rfl (lv_at hl 1 rfl) ?_
    refine lv_if_lt hx hb d_LazyMachine_mayBear_5 rfl (fun h5 => ?_) (fun h5 => ?_)
    · refine lv_iconst (v := 0) hx hb d_LazyMachine_mayBear_18 (by decide) ?_
      refine lm_rz (v := 0) hx hb hr hlocks (by decide) () ?_ hP hK hD hS d_LazyMachine_mayBear_19
      unfold ma_may; (first | rw [if_pos h1] | rw [if_neg h1]); (first | rw [if_pos h5] | rw [if_neg h5]); exact ⟨rfl, rfl⟩
    · refine lv_iload_n hx hb d_LazyMachine_mayBear_8 rfl (lv_at hl 1 rfl) ?_
      refine lv_bipush (v := 40) hx hb d_LazyMachine_mayBear_9 (by decide) ?_
      refine lv_icmp_gt hx hb d_LazyMachine_mayBear_11 rfl (fun h11 => ?_) (fun h11 => ?_)
      · refine lv_iconst (v := 0) hx hb d_LazyMachine_mayBear_18 (by decide) ?_
        refine lm_rz (v := 0) hx hb hr hlocks (by decide) () ?_ hP hK hD hS d_LazyMachine_mayBear_19
        unfold ma_may; (first | rw [if_pos h1] | rw [if_neg h1]); (first | rw [if_pos h5] | rw [if_neg h5]); (first | rw [if_pos h11] | rw [if_neg h11]); exact ⟨rfl, rfl⟩
      · refine lv_iconst (v := 1) hx hb d_LazyMachine_mayBear_14 (by decide) ?_
        refine lv_goto hx hb d_LazyMachine_mayBear_15 rfl ?_
        refine lm_rz (v := 1) hx hb hr hlocks (by decide) () ?_ hP hK hD hS d_LazyMachine_mayBear_19
        unfold ma_may; (first | rw [if_pos h1] | rw [if_neg h1]); (first | rw [if_pos h5] | rw [if_neg h5]); (first | rw [if_pos h11] | rw [if_neg h11]); exact ⟨rfl, rfl⟩
set_option maxHeartbeats 4000000 in
set_option maxRecDepth 100000 in
theorem c_LazyMachine_put (l : Launch) (dC : Nat → ClassId) (dI : Nat → Nat → Nat) (cA : ClassId)  (ad : Nat → Nat) (sz : Nat) (M : ZMS) (x1 x2 : Int32) (hx1 : ∃ k : Nat, k < 14 ∧ x1 = nI k) (hx2 : ¬ ma_may x1 x2 = 0) (hz : tm_ok (m_X M)) : Met l y_LazyMachine_put w_LazyMachine_put ({ frames := 1, cells := 0, slots := 0, locals := 22 } : Room) (va_Pc [.ref (ad 0), .int x1, .int x2] (lm_pre (dC, dI) classes [(cA, .int)] (lz_W cA ad M) sz lm_no)) (va_Qi (fun (r : Int32) (u : ZMS) => r = (ma_put M x1 x2).1 ∧ u = (ma_put M x1 x2).2) (fun u => lm_at (dC, dI) classes [(cA, .int)] (va_A (lz_W cA ad M) sz) (lz_W cA ad u)) (va_A (lz_W cA ad M) sz)) 0 0 (va_A (lz_W cA ad M) sz) := by
  obtain ⟨⟨ss, sp, fo, ba, no, en, vs, vf, vg⟩, SM, PM, XM, YM⟩ := M
  refine lm_met (fun A => va_Qi (fun (r : Int32) (u : ZMS) => r = (ma_put ((ss, sp, fo, ba, no, en, vs, vf, vg), SM, PM, XM, YM) x1 x2).1 ∧ u = (ma_put ((ss, sp, fo, ba, no, en, vs, vf, vg), SM, PM, XM, YM) x1 x2).2) (fun u => lm_at (dC, dI) classes [(cA, .int)] A (lz_W cA ad u)) A) (by decide) rfl (Nat.le_of_ble_eq_true rfl) ?_
  intro p e s m below meth c A hx hb hr hts hown hlocks hname hml hK hP hD hA hE hsz hAe hS ls hl
  replace hl : lv_has ls 3 [(0, .ref (ad 0)), (1, .int x1), (2, .int x2)] := hl
  clear hAe hsz
  refine lv_iload_n hx hb d_LazyMachine_put_0 rfl (lv_at hl 1 rfl) ?_
  refine lv_if_lt hx hb d_LazyMachine_put_1 rfl (fun h1 => by obtain ⟨k, hk, rfl⟩ := hx1; exact absurd h1 (nI_pos (by omega))) (fun h1 => ?_)
  refine lv_iload_n hx hb d_LazyMachine_put_4 rfl (lv_at hl 1 rfl) ?_
  refine lv_bipush (v := 13) hx hb d_LazyMachine_put_5 (by decide) ?_
  refine lv_icmp_le hx hb d_LazyMachine_put_7 rfl (fun h7 => ?_) (fun h7 => by obtain ⟨k, hk, rfl⟩ := hx1; exact absurd (show nI k ≤ (13 : Int32) from nI_le (b := 13) (by omega) (by decide)) h7)
  refine lv_iload_n hx hb d_LazyMachine_put_20 rfl (lv_at hl 1 rfl) ?_
  refine lv_iload_n hx hb d_LazyMachine_put_21 rfl (lv_at hl 2 rfl) ?_
  refine lm_si (As := [.int x1, .int x2]) (rest := []) (wr := (ma_W cA ad (ss, sp, fo, ba, no, en, vs, vf, vg)) ++ (hp_W cA (fun k => ad (k + 1)) SM) ++ (pl_W cA (fun k => ad (k + 8)) PM) ++ (tm_W cA (fun k => ad (k + 12)) XM) ++ (tm_W cA (fun k => ad (k + 19)) YM)) ⟨hx, hb, hml, hown, hts⟩ hK hP hD hS hA [] [0, 1, 2, 3, 4, 5, 6, 7, 8, 9, 10, 11, 12, 13, 14, 15, 16, 17, 18, 19, 20, 21, 22, 23, 24, 25] rfl rfl (by decide) (by decide) (by decide) (c_LazyMachine_mayBear l dC dI cA  _  x1 x2 ) (cwS 2 hts (lm_gS m_6_12 m_6_13 m_0_1 m_6_14) rfl rfl rfl (by decide +kernel) ⟨Nat.le_of_ble_eq_true rfl, Nat.le_of_ble_eq_true rfl⟩) lm_bl_no (fun _ _ _ => trivial) hl.1 rfl rfl (Nat.le_of_ble_eq_true rfl) d_LazyMachine_put_22 ⟨Nat.le_of_ble_eq_true rfl, Nat.le_of_ble_eq_true rfl⟩ (fun r22 u22 H locs w22 hP hD hS => ?_)
  obtain ⟨e_r22, w22⟩ := w22
  have hP : va_P (dC, dI) classes (lz_W cA ad ((ss, sp, fo, ba, no, en, vs, vf, vg), SM, PM, XM, YM)) H := hP
  have hD : va_D A (lz_W cA ad ((ss, sp, fo, ba, no, en, vs, vf, vg), SM, PM, XM, YM)) := hD
  refine lv_if_ne hx hb d_LazyMachine_put_25 rfl (fun h25 => ?_) (fun h25 => by exact absurd (by rw [← e_r22]; exact h25) hx2)
  refine lv_aload_n hx hb d_LazyMachine_put_38 rfl (lv_at hl 0 rfl) ?_
  refine va_get (D := (dC, dI)) (ci := 0) (v := .ref (ad 12)) (C := R_LazyMachine) (T := F_LazyMachine) (N := 13) hx hb hts (fun q hq => List.mem_cons_of_mem _ (i_LazyMachine q hq)) hown hK hP 0 rfl rfl 2 (by decide) (hts _ (List.mem_cons_of_mem _ m_2_9)) (fun _ h9 => h9) rfl d_LazyMachine_put_39 ?_
  refine lv_iload_n hx hb d_LazyMachine_put_42 rfl (lv_at hl 1 rfl) ?_
  refine lv_iload_n hx hb d_LazyMachine_put_43 rfl (lv_at hl 2 rfl) ?_
  refine lm_vi (b := ad 12) (As := [.int x1, .int x2]) (rest := []) (wr := (ma_W cA ad (ss, sp, fo, ba, no, en, vs, vf, vg)) ++ (hp_W cA (fun k => ad (k + 1)) SM) ++ (pl_W cA (fun k => ad (k + 8)) PM) ++ (tm_W cA (fun k => ad (k + 19)) YM)) ⟨hx, hb, hml, hown, hts⟩ hK hP hD hS hA [12, 13, 14, 15, 16, 17, 18] [0, 1, 2, 3, 4, 5, 6, 7, 8, 9, 10, 11, 19, 20, 21, 22, 23, 24, 25] rfl rfl (by decide) (by decide) (by decide) (c_Term_add l dC dI cA (fun k => ad (k + 12)) _ XM x1 x2 (by exact hz)) (cwV 2 hts (lm_gV m_6_15 m_6_16 m_6_17 m_0_4 m_6_18) rfl rfl rfl (by decide +kernel) ⟨Nat.le_of_ble_eq_true rfl, Nat.le_of_ble_eq_true rfl⟩) (va_recv (q0 := 12) hK hP rfl rfl) lm_bl_no (fun _ _ _ => trivial) hl.1 rfl rfl (Nat.le_of_ble_eq_true rfl) d_LazyMachine_put_44 ⟨Nat.le_of_ble_eq_true rfl, Nat.le_of_ble_eq_true rfl⟩ (fun r44 u44 H locs w44 hP hD hS => ?_)
  obtain ⟨e_r44, w44⟩ := w44
  have hP : va_P (dC, dI) classes (lz_W cA ad ((ss, sp, fo, ba, no, en, vs, vf, vg), SM, PM, u44, YM)) H := hP.sub [0, 1, 2, 3, 4, 5, 6, 7, 8, 9, 10, 11, 19, 20, 21, 22, 23, 24, 25, 12, 13, 14, 15, 16, 17, 18] rfl
  have hD : va_D A (lz_W cA ad ((ss, sp, fo, ba, no, en, vs, vf, vg), SM, PM, u44, YM)) := hD.sub [0, 1, 2, 3, 4, 5, 6, 7, 8, 9, 10, 11, 19, 20, 21, 22, 23, 24, 25, 12, 13, 14, 15, 16, 17, 18] (by decide) rfl
  refine lv_if_eq hx hb d_LazyMachine_put_47 rfl (fun h47 => ?_) (fun h47 => ?_)
  · refine lv_iconst (v := -1) hx hb d_LazyMachine_put_60 (by decide) ?_
    refine lm_ri (v := (-1)) hx hb hr hlocks ((ss, sp, fo, ba, no, en, vs, vf, vg), SM, PM, u44, YM) ?_ hP hK hD hS d_LazyMachine_put_61
    subst e_r22 e_r44 w44; unfold ma_put ma_setX; (first | rw [if_pos h47] | rw [if_neg h47]); exact ⟨rfl, rfl⟩
  · refine lv_aload_n hx hb d_LazyMachine_put_50 rfl (lv_at hl 0 rfl) ?_
    refine va_get (D := (dC, dI)) (ci := 0) (v := .ref (ad 12)) (C := R_LazyMachine) (T := F_LazyMachine) (N := 13) hx hb hts (fun q hq => List.mem_cons_of_mem _ (i_LazyMachine q hq)) hown hK hP 0 rfl rfl 2 (by decide) (hts _ (List.mem_cons_of_mem _ m_2_9)) (fun _ h9 => h9) rfl d_LazyMachine_put_51 ?_
    refine lm_vi (b := ad 12) (As := []) (rest := []) (wr := (ma_W cA ad (ss, sp, fo, ba, no, en, vs, vf, vg)) ++ (hp_W cA (fun k => ad (k + 1)) SM) ++ (pl_W cA (fun k => ad (k + 8)) PM) ++ (tm_W cA (fun k => ad (k + 19)) YM)) ⟨hx, hb, hml, hown, hts⟩ hK hP hD hS hA [12, 13, 14, 15, 16, 17, 18] [0, 1, 2, 3, 4, 5, 6, 7, 8, 9, 10, 11, 19, 20, 21, 22, 23, 24, 25] rfl rfl (by decide) (by decide) (by decide) (c_Term_size l dC dI cA (fun k => ad (k + 12)) _ u44  ) (cwV 0 hts (lm_gV m_4_16 m_4_17 m_4_18 m_0_4 m_4_19) rfl rfl rfl (by decide +kernel) ⟨Nat.le_of_ble_eq_true rfl, Nat.le_of_ble_eq_true rfl⟩) (va_recv (q0 := 12) hK hP rfl rfl) lm_bl_no (fun _ _ _ => trivial) hl.1 rfl rfl (Nat.le_of_ble_eq_true rfl) d_LazyMachine_put_54 ⟨Nat.le_of_ble_eq_true rfl, Nat.le_of_ble_eq_true rfl⟩ (fun r54 u54 H locs w54 hP hD hS => ?_)
    obtain ⟨e_r54, w54⟩ := w54
    replace e_r54 := e_r54.symm
    subst e_r54
    replace w54 := w54.symm
    subst w54
    have hP : va_P (dC, dI) classes (lz_W cA ad ((ss, sp, fo, ba, no, en, vs, vf, vg), SM, PM, u44, YM)) H := hP.sub [0, 1, 2, 3, 4, 5, 6, 7, 8, 9, 10, 11, 19, 20, 21, 22, 23, 24, 25, 12, 13, 14, 15, 16, 17, 18] rfl
    have hD : va_D A (lz_W cA ad ((ss, sp, fo, ba, no, en, vs, vf, vg), SM, PM, u44, YM)) := hD.sub [0, 1, 2, 3, 4, 5, 6, 7, 8, 9, 10, 11, 19, 20, 21, 22, 23, 24, 25, 12, 13, 14, 15, 16, 17, 18] (by decide) rfl
    refine lv_goto hx hb d_LazyMachine_put_57 rfl ?_
    refine lm_ri (v := (t_sz u44)) hx hb hr hlocks ((ss, sp, fo, ba, no, en, vs, vf, vg), SM, PM, u44, YM) ?_ hP hK hD hS d_LazyMachine_put_61
    subst e_r22 e_r44 w44; unfold ma_put ma_setX; (first | rw [if_pos h47] | rw [if_neg h47]); exact ⟨rfl, rfl⟩
set_option maxHeartbeats 4000000 in
set_option maxRecDepth 100000 in
theorem c_LazyMachine_load (l : Launch) (dC : Nat → ClassId) (dI : Nat → Nat → Nat) (cA : ClassId) (tp : Nat) (ad : Nat → Nat) (sz : Nat) (M : ZMS)  (hz : tm_ok (m_X M)) (hso : tm_so (m_X M)) : Met l y_LazyMachine_load w_LazyMachine_load ({ frames := 3, cells := 0, slots := 0, locals := 66 } : Room) (va_Pc [.ref (ad 0)] (lm_pre (dC, dI) classes [(cA, .int)] (lz_W cA ad M) sz (tm_E tp (va_A (lz_W cA ad M) sz)))) (va_Qi (fun (r : Int32) (u : ZMS) => r = (ma_load M).1 ∧ u = (ma_load M).2) (fun u => lm_at (dC, dI) classes [(cA, .int)] (va_A (lz_W cA ad M) sz) (lz_W cA (lm_sw ad) u)) (va_A (lz_W cA ad M) sz)) 0 0 (va_A (lz_W cA ad M) sz) := by
  obtain ⟨⟨ss, sp, fo, ba, no, en, vs, vf, vg⟩, SM, PM, XM, YM⟩ := M
  refine lm_met (fun A => va_Qi (fun (r : Int32) (u : ZMS) => r = (ma_load ((ss, sp, fo, ba, no, en, vs, vf, vg), SM, PM, XM, YM)).1 ∧ u = (ma_load ((ss, sp, fo, ba, no, en, vs, vf, vg), SM, PM, XM, YM)).2) (fun u => lm_at (dC, dI) classes [(cA, .int)] A (lz_W cA (lm_sw ad) u)) A) (by decide) rfl (Nat.le_of_ble_eq_true rfl) ?_
  intro p e s m below meth c A hx hb hr hts hown hlocks hname hml hK hP hD hA hE hsz hAe hS ls hl
  replace hl : lv_has ls 3 [(0, .ref (ad 0))] := hl
  subst hsz
  rw [← hAe] at hE
  clear hAe
  refine lv_aload_n hx hb d_LazyMachine_load_0 rfl (lv_at hl 0 rfl) ?_
  refine va_get (D := (dC, dI)) (ci := 0) (v := .ref (ad 12)) (C := R_LazyMachine) (T := F_LazyMachine) (N := 13) hx hb hts (fun q hq => List.mem_cons_of_mem _ (i_LazyMachine q hq)) hown hK hP 0 rfl rfl 2 (by decide) (hts _ (List.mem_cons_of_mem _ m_2_9)) (fun _ h9 => h9) rfl d_LazyMachine_load_1 ?_
  refine lm_vi (b := ad 12) (As := []) (rest := []) (wr := (ma_W cA ad (ss, sp, fo, ba, no, en, vs, vf, vg)) ++ (hp_W cA (fun k => ad (k + 1)) SM) ++ (pl_W cA (fun k => ad (k + 8)) PM) ++ (tm_W cA (fun k => ad (k + 19)) YM)) ⟨hx, hb, hml, hown, hts⟩ hK hP hD hS hA [12, 13, 14, 15, 16, 17, 18] [0, 1, 2, 3, 4, 5, 6, 7, 8, 9, 10, 11, 19, 20, 21, 22, 23, 24, 25] rfl rfl (by decide) (by decide) (by decide) (c_Term_settle l dC dI cA tp (fun k => ad (k + 12)) _ XM  (by exact hz) (by exact hso)) (cwV 0 hts (lm_gV m_3_0 m_3_1 m_3_2 m_0_4 m_3_3) rfl rfl rfl (by decide +kernel) ⟨Nat.le_of_ble_eq_true rfl, Nat.le_of_ble_eq_true rfl⟩) (va_recv (q0 := 12) hK hP rfl rfl) tm_E_bl (tm_E_use hE hS (va_free (wc := tm_W cA (fun k => ad (k + 12)) XM) hD hS hA [12, 13, 14, 15, 16, 17, 18] rfl)) hl.1 rfl rfl (Nat.le_of_ble_eq_true rfl) d_LazyMachine_load_4 ⟨Nat.le_of_ble_eq_true rfl, Nat.le_of_ble_eq_true rfl⟩ (fun r4 u4 H locs w4 hP hD hS => ?_)
  obtain ⟨e_r4, w4⟩ := w4
  have hP : va_P (dC, dI) classes (lz_W cA ad ((ss, sp, fo, ba, no, en, vs, vf, vg), SM, PM, u4, YM)) H := hP.sub [0, 1, 2, 3, 4, 5, 6, 7, 8, 9, 10, 11, 19, 20, 21, 22, 23, 24, 25, 12, 13, 14, 15, 16, 17, 18] rfl
  have hD : va_D A (lz_W cA ad ((ss, sp, fo, ba, no, en, vs, vf, vg), SM, PM, u4, YM)) := hD.sub [0, 1, 2, 3, 4, 5, 6, 7, 8, 9, 10, 11, 19, 20, 21, 22, 23, 24, 25, 12, 13, 14, 15, 16, 17, 18] (by decide) rfl
  refine lv_istore_n (lv' := [(1, .int r4), (0, .ref (ad 0))]) hx hb d_LazyMachine_load_7 rfl hl (by decide) rfl (fun ls hl => ?_)
  refine lv_aload_n hx hb d_LazyMachine_load_8 rfl (lv_at hl 1 rfl) ?_
  refine va_get (D := (dC, dI)) (ci := 0) (v := .ref (ad 12)) (C := R_LazyMachine) (T := F_LazyMachine) (N := 13) hx hb hts (fun q hq => List.mem_cons_of_mem _ (i_LazyMachine q hq)) hown hK hP 0 rfl rfl 2 (by decide) (hts _ (List.mem_cons_of_mem _ m_2_9)) (fun _ h9 => h9) rfl d_LazyMachine_load_9 ?_
  refine lv_astore_n (lv' := [(2, .ref (ad 12)), (1, .int r4), (0, .ref (ad 0))]) hx hb d_LazyMachine_load_12 rfl hl (by decide) rfl (fun ls hl => ?_)
  refine lv_aload_n hx hb d_LazyMachine_load_13 rfl (lv_at hl 2 rfl) ?_
  refine lv_aload_n hx hb d_LazyMachine_load_14 rfl (lv_at hl 2 rfl) ?_
  refine va_get (D := (dC, dI)) (ci := 0) (v := .ref (ad 19)) (C := R_LazyMachine) (T := F_LazyMachine) (N := 13) hx hb hts (fun q hq => List.mem_cons_of_mem _ (i_LazyMachine q hq)) hown hK hP 0 rfl rfl 3 (by decide) (hts _ (List.mem_cons_of_mem _ m_2_10)) (fun _ h9 => h9) rfl d_LazyMachine_load_15 ?_
  refine va_put (D := (dC, dI)) (ci := 0) (v := .ref (ad 19)) (ty := .object "LazyMachine$Term") (C := R_LazyMachine) (T := F_LazyMachine) (N := 13) hx hb hts (fun q hq => List.mem_cons_of_mem _ (i_LazyMachine q hq)) t_LazyMachine t_LazyMachine_ok n_LazyMachine hown hK hP hD hS 0 rfl rfl 2 (by decide) (hts _ (List.mem_cons_of_mem _ m_2_9)) (fun _ h9 => h9) rfl (by decide +kernel) rfl rfl (Nat.le_of_ble_eq_true rfl) d_LazyMachine_load_18 (fun H locs hP hD hS => ?_)
  have hP : va_P (dC, dI) classes (ma_W2 cA ad (ad 19) (ad 19) (ss, sp, fo, ba, no, en, vs, vf, vg) ++ (hp_W cA (fun k => ad (k + 1)) SM ++ (pl_W cA (fun k => ad (k + 8)) PM ++ (tm_W cA (fun k => ad (k + 12)) u4 ++ (tm_W cA (fun k => ad (k + 19)) YM))))) H := hP
  have hD : va_D A (ma_W2 cA ad (ad 19) (ad 19) (ss, sp, fo, ba, no, en, vs, vf, vg) ++ (hp_W cA (fun k => ad (k + 1)) SM ++ (pl_W cA (fun k => ad (k + 8)) PM ++ (tm_W cA (fun k => ad (k + 12)) u4 ++ (tm_W cA (fun k => ad (k + 19)) YM))))) := hD
  refine lv_aload_n hx hb d_LazyMachine_load_21 rfl (lv_at hl 2 rfl) ?_
  refine lv_aload_n hx hb d_LazyMachine_load_22 rfl (lv_at hl 0 rfl) ?_
  refine va_put (D := (dC, dI)) (ci := 0) (v := .ref (ad 12)) (ty := .object "LazyMachine$Term") (C := R_LazyMachine) (T := F_LazyMachine) (N := 13) hx hb hts (fun q hq => List.mem_cons_of_mem _ (i_LazyMachine q hq)) t_LazyMachine t_LazyMachine_ok n_LazyMachine hown hK hP hD hS 0 rfl rfl 3 (by decide) (hts _ (List.mem_cons_of_mem _ m_2_10)) (fun _ h9 => h9) rfl (by decide +kernel) rfl rfl (Nat.le_of_ble_eq_true rfl) d_LazyMachine_load_23 (fun H locs hP hD hS => ?_)
  have hP : va_P (dC, dI) classes (ma_W2 cA ad (ad 19) (ad 12) (ss, sp, fo, ba, no, en, vs, vf, vg) ++ (hp_W cA (fun k => ad (k + 1)) SM ++ (pl_W cA (fun k => ad (k + 8)) PM ++ (tm_W cA (fun k => ad (k + 12)) u4 ++ (tm_W cA (fun k => ad (k + 19)) YM))))) H := hP
  have hD : va_D A (ma_W2 cA ad (ad 19) (ad 12) (ss, sp, fo, ba, no, en, vs, vf, vg) ++ (hp_W cA (fun k => ad (k + 1)) SM ++ (pl_W cA (fun k => ad (k + 8)) PM ++ (tm_W cA (fun k => ad (k + 12)) u4 ++ (tm_W cA (fun k => ad (k + 19)) YM))))) := hD
  have hP : va_P (dC, dI) classes (lz_W cA (lm_sw ad) ((ss, sp, fo, ba, no, en, vs, vf, vg), SM, PM, YM, u4)) H := hP.sub [0, 1, 2, 3, 4, 5, 6, 7, 8, 9, 10, 11, 19, 20, 21, 22, 23, 24, 25, 12, 13, 14, 15, 16, 17, 18] rfl
  have hD : va_D A (lz_W cA (lm_sw ad) ((ss, sp, fo, ba, no, en, vs, vf, vg), SM, PM, YM, u4)) := hD.sub [0, 1, 2, 3, 4, 5, 6, 7, 8, 9, 10, 11, 19, 20, 21, 22, 23, 24, 25, 12, 13, 14, 15, 16, 17, 18] (by decide) rfl
  refine lv_aload_n hx hb d_LazyMachine_load_26 rfl (lv_at hl 2 rfl) ?_
  refine va_get (D := (dC, dI)) (ci := 0) (v := .ref (ad 19)) (C := R_LazyMachine) (T := F_LazyMachine) (N := 13) hx hb hts (fun q hq => List.mem_cons_of_mem _ (i_LazyMachine q hq)) hown hK hP 0 rfl rfl 2 (by decide) (hts _ (List.mem_cons_of_mem _ m_2_9)) (fun _ h9 => h9) rfl d_LazyMachine_load_27 ?_
  refine lm_vv (b := ad 19) (As := []) (rest := []) (wr := (ma_W cA (lm_sw ad) (ss, sp, fo, ba, no, en, vs, vf, vg)) ++ (hp_W cA (fun k => ad (k + 1)) SM) ++ (pl_W cA (fun k => ad (k + 8)) PM) ++ (tm_W cA (fun k => ad (k + 12)) u4)) ⟨hx, hb, hml, hown, hts⟩ hK hP hD hS hA [12, 13, 14, 15, 16, 17, 18] [0, 1, 2, 3, 4, 5, 6, 7, 8, 9, 10, 11, 19, 20, 21, 22, 23, 24, 25] rfl rfl (by decide) (by decide) (by decide) (c_Term_clear l dC dI cA (fun k => ad (k + 19)) _ YM  ) (cwV 0 hts (lm_gV m_3_10 m_3_11 m_3_12 m_0_4 m_3_13) rfl rfl rfl (by decide +kernel) ⟨Nat.le_of_ble_eq_true rfl, Nat.le_of_ble_eq_true rfl⟩) (va_recv (a := ad 19) (q0 := 12) hK hP rfl rfl) lm_bl_no (fun _ _ _ => trivial) hl.1 rfl rfl (Nat.le_of_ble_eq_true rfl) d_LazyMachine_load_30 ⟨Nat.le_of_ble_eq_true rfl, Nat.le_of_ble_eq_true rfl⟩ (fun u30 H locs w30 hP hD hS => ?_)
  have hP : va_P (dC, dI) classes (lz_W cA (lm_sw ad) ((ss, sp, fo, ba, no, en, vs, vf, vg), SM, PM, u30, u4)) H := hP.sub [0, 1, 2, 3, 4, 5, 6, 7, 8, 9, 10, 11, 19, 20, 21, 22, 23, 24, 25, 12, 13, 14, 15, 16, 17, 18] rfl
  have hD : va_D A (lz_W cA (lm_sw ad) ((ss, sp, fo, ba, no, en, vs, vf, vg), SM, PM, u30, u4)) := hD.sub [0, 1, 2, 3, 4, 5, 6, 7, 8, 9, 10, 11, 19, 20, 21, 22, 23, 24, 25, 12, 13, 14, 15, 16, 17, 18] (by decide) rfl
  refine lv_iload_n hx hb d_LazyMachine_load_33 rfl (lv_at hl 1 rfl) ?_
  refine lv_if_eq hx hb d_LazyMachine_load_34 rfl (fun h34 => ?_) (fun h34 => ?_)
  · refine lv_aload_n hx hb d_LazyMachine_load_44 rfl (lv_at hl 2 rfl) ?_
    refine lv_iload_n hx hb d_LazyMachine_load_45 rfl (lv_at hl 1 rfl) ?_
    refine lv_if_ne hx hb d_LazyMachine_load_46 rfl (fun h46 => ?_) (fun h46 => ?_)
    · refine lv_iconst (v := 0) hx hb d_LazyMachine_load_53 (by decide) ?_
      refine lm_vv (b := ad 0) (As := [.int 0]) (rest := []) (wr := ([] : va_W)) ⟨hx, hb, hml, hown, hts⟩ hK hP hD hS hA [0, 1, 2, 3, 4, 5, 6, 7, 8, 9, 10, 11, 12, 13, 14, 15, 16, 17, 18, 19, 20, 21, 22, 23, 24, 25] [] rfl rfl (by decide) (by decide) (by decide) (c_LazyMachine_begin l dC dI cA (lm_sw ad) _ ((ss, sp, fo, ba, no, en, vs, vf, vg), SM, PM, u30, u4) 0 ) (cwV 1 hts (lm_gV m_3_14 m_3_15 m_19_5 m_0_1 m_3_16) rfl rfl rfl (by decide +kernel) ⟨Nat.le_of_ble_eq_true rfl, Nat.le_of_ble_eq_true rfl⟩) (va_recv (a := ad 0) (q0 := 0) hK hP rfl rfl) lm_bl_no (fun _ _ _ => trivial) hl.1 rfl rfl (Nat.le_of_ble_eq_true rfl) d_LazyMachine_load_54 ⟨Nat.le_of_ble_eq_true rfl, Nat.le_of_ble_eq_true rfl⟩ (fun u54 H locs w54 hP hD hS => ?_)
      have hP : va_P (dC, dI) classes (lz_W cA (lm_sw ad) u54) H := hP
      have hD : va_D A (lz_W cA (lm_sw ad) u54) := hD
      refine lv_iload_n hx hb d_LazyMachine_load_57 rfl (lv_at hl 1 rfl) ?_
      refine lm_ri (v := r4) hx hb hr hlocks u54 ?_ hP hK hD hS d_LazyMachine_load_58
      subst e_r4 w4 w30 w54; unfold ma_load; first | (rw [if_pos h34, if_pos h34]; exact ⟨rfl, rfl⟩) | (rw [if_neg h34, if_neg h34]; exact ⟨rfl, rfl⟩) | exact absurd h34 h46 | exact absurd h46 h34
    · refine lv_iconst (v := 1) hx hb d_LazyMachine_load_49 (by decide) ?_
      refine lv_goto hx hb d_LazyMachine_load_50 rfl ?_
      refine lm_vv (b := ad 0) (As := [.int 1]) (rest := []) (wr := ([] : va_W)) ⟨hx, hb, hml, hown, hts⟩ hK hP hD hS hA [0, 1, 2, 3, 4, 5, 6, 7, 8, 9, 10, 11, 12, 13, 14, 15, 16, 17, 18, 19, 20, 21, 22, 23, 24, 25] [] rfl rfl (by decide) (by decide) (by decide) (c_LazyMachine_begin l dC dI cA (lm_sw ad) _ ((ss, sp, fo, ba, no, en, vs, vf, vg), SM, PM, u30, u4) 1 ) (cwV 1 hts (lm_gV m_3_14 m_3_15 m_19_5 m_0_1 m_3_16) rfl rfl rfl (by decide +kernel) ⟨Nat.le_of_ble_eq_true rfl, Nat.le_of_ble_eq_true rfl⟩) (va_recv (a := ad 0) (q0 := 0) hK hP rfl rfl) lm_bl_no (fun _ _ _ => trivial) hl.1 rfl rfl (Nat.le_of_ble_eq_true rfl) d_LazyMachine_load_54 ⟨Nat.le_of_ble_eq_true rfl, Nat.le_of_ble_eq_true rfl⟩ (fun u54 H locs w54 hP hD hS => ?_)
      have hP : va_P (dC, dI) classes (lz_W cA (lm_sw ad) u54) H := hP
      have hD : va_D A (lz_W cA (lm_sw ad) u54) := hD
      refine lv_iload_n hx hb d_LazyMachine_load_57 rfl (lv_at hl 1 rfl) ?_
      refine lm_ri (v := r4) hx hb hr hlocks u54 ?_ hP hK hD hS d_LazyMachine_load_58
      subst e_r4 w4 w30 w54; unfold ma_load; first | (rw [if_pos h34, if_pos h34]; exact ⟨rfl, rfl⟩) | (rw [if_neg h34, if_neg h34]; exact ⟨rfl, rfl⟩) | exact absurd h34 h46 | exact absurd h46 h34
  · refine lv_aload_n hx hb d_LazyMachine_load_37 rfl (lv_at hl 2 rfl) ?_
    refine va_get (D := (dC, dI)) (ci := 0) (v := .ref (ad 12)) (C := R_LazyMachine) (T := F_LazyMachine) (N := 13) hx hb hts (fun q hq => List.mem_cons_of_mem _ (i_LazyMachine q hq)) hown hK hP 0 rfl rfl 3 (by decide) (hts _ (List.mem_cons_of_mem _ m_2_10)) (fun _ h9 => h9) rfl d_LazyMachine_load_38 ?_
    refine lm_vv (b := ad 12) (As := []) (rest := []) (wr := (ma_W cA (lm_sw ad) (ss, sp, fo, ba, no, en, vs, vf, vg)) ++ (hp_W cA (fun k => ad (k + 1)) SM) ++ (pl_W cA (fun k => ad (k + 8)) PM) ++ (tm_W cA (fun k => ad (k + 19)) u30)) ⟨hx, hb, hml, hown, hts⟩ hK hP hD hS hA [19, 20, 21, 22, 23, 24, 25] [0, 1, 2, 3, 4, 5, 6, 7, 8, 9, 10, 11, 12, 13, 14, 15, 16, 17, 18] rfl rfl (by decide) (by decide) (by decide) (c_Term_clear l dC dI cA (fun k => ad (k + 12)) _ u4  ) (cwV 0 hts (lm_gV m_3_10 m_3_11 m_3_12 m_0_4 m_3_13) rfl rfl rfl (by decide +kernel) ⟨Nat.le_of_ble_eq_true rfl, Nat.le_of_ble_eq_true rfl⟩) (va_recv (a := ad 12) (q0 := 19) hK hP rfl rfl) lm_bl_no (fun _ _ _ => trivial) hl.1 rfl rfl (Nat.le_of_ble_eq_true rfl) d_LazyMachine_load_41 ⟨Nat.le_of_ble_eq_true rfl, Nat.le_of_ble_eq_true rfl⟩ (fun u41 H locs w41 hP hD hS => ?_)
    have hP : va_P (dC, dI) classes (lz_W cA (lm_sw ad) ((ss, sp, fo, ba, no, en, vs, vf, vg), SM, PM, u30, u41)) H := hP
    have hD : va_D A (lz_W cA (lm_sw ad) ((ss, sp, fo, ba, no, en, vs, vf, vg), SM, PM, u30, u41)) := hD
    refine lv_aload_n hx hb d_LazyMachine_load_44 rfl (lv_at hl 2 rfl) ?_
    refine lv_iload_n hx hb d_LazyMachine_load_45 rfl (lv_at hl 1 rfl) ?_
    refine lv_if_ne hx hb d_LazyMachine_load_46 rfl (fun h46 => ?_) (fun h46 => ?_)
    · refine lv_iconst (v := 0) hx hb d_LazyMachine_load_53 (by decide) ?_
      refine lm_vv (b := ad 0) (As := [.int 0]) (rest := []) (wr := ([] : va_W)) ⟨hx, hb, hml, hown, hts⟩ hK hP hD hS hA [0, 1, 2, 3, 4, 5, 6, 7, 8, 9, 10, 11, 12, 13, 14, 15, 16, 17, 18, 19, 20, 21, 22, 23, 24, 25] [] rfl rfl (by decide) (by decide) (by decide) (c_LazyMachine_begin l dC dI cA (lm_sw ad) _ ((ss, sp, fo, ba, no, en, vs, vf, vg), SM, PM, u30, u41) 0 ) (cwV 1 hts (lm_gV m_3_14 m_3_15 m_19_5 m_0_1 m_3_16) rfl rfl rfl (by decide +kernel) ⟨Nat.le_of_ble_eq_true rfl, Nat.le_of_ble_eq_true rfl⟩) (va_recv (a := ad 0) (q0 := 0) hK hP rfl rfl) lm_bl_no (fun _ _ _ => trivial) hl.1 rfl rfl (Nat.le_of_ble_eq_true rfl) d_LazyMachine_load_54 ⟨Nat.le_of_ble_eq_true rfl, Nat.le_of_ble_eq_true rfl⟩ (fun u54 H locs w54 hP hD hS => ?_)
      have hP : va_P (dC, dI) classes (lz_W cA (lm_sw ad) u54) H := hP
      have hD : va_D A (lz_W cA (lm_sw ad) u54) := hD
      refine lv_iload_n hx hb d_LazyMachine_load_57 rfl (lv_at hl 1 rfl) ?_
      refine lm_ri (v := r4) hx hb hr hlocks u54 ?_ hP hK hD hS d_LazyMachine_load_58
      subst e_r4 w4 w30 w41 w54; unfold ma_load; first | (rw [if_pos h34, if_pos h34]; exact ⟨rfl, rfl⟩) | (rw [if_neg h34, if_neg h34]; exact ⟨rfl, rfl⟩) | exact absurd h34 h46 | exact absurd h46 h34
    · refine lv_iconst (v := 1) hx hb d_LazyMachine_load_49 (by decide) ?_
      refine lv_goto hx hb d_LazyMachine_load_50 rfl ?_
      refine lm_vv (b := ad 0) (As := [.int 1]) (rest := []) (wr := ([] : va_W)) ⟨hx, hb, hml, hown, hts⟩ hK hP hD hS hA [0, 1, 2, 3, 4, 5, 6, 7, 8, 9, 10, 11, 12, 13, 14, 15, 16, 17, 18, 19, 20, 21, 22, 23, 24, 25] [] rfl rfl (by decide) (by decide) (by decide) (c_LazyMachine_begin l dC dI cA (lm_sw ad) _ ((ss, sp, fo, ba, no, en, vs, vf, vg), SM, PM, u30, u41) 1 ) (cwV 1 hts (lm_gV m_3_14 m_3_15 m_19_5 m_0_1 m_3_16) rfl rfl rfl (by decide +kernel) ⟨Nat.le_of_ble_eq_true rfl, Nat.le_of_ble_eq_true rfl⟩) (va_recv (a := ad 0) (q0 := 0) hK hP rfl rfl) lm_bl_no (fun _ _ _ => trivial) hl.1 rfl rfl (Nat.le_of_ble_eq_true rfl) d_LazyMachine_load_54 ⟨Nat.le_of_ble_eq_true rfl, Nat.le_of_ble_eq_true rfl⟩ (fun u54 H locs w54 hP hD hS => ?_)
      have hP : va_P (dC, dI) classes (lz_W cA (lm_sw ad) u54) H := hP
      have hD : va_D A (lz_W cA (lm_sw ad) u54) := hD
      refine lv_iload_n hx hb d_LazyMachine_load_57 rfl (lv_at hl 1 rfl) ?_
      refine lm_ri (v := r4) hx hb hr hlocks u54 ?_ hP hK hD hS d_LazyMachine_load_58
      subst e_r4 w4 w30 w41 w54; unfold ma_load; first | (rw [if_pos h34, if_pos h34]; exact ⟨rfl, rfl⟩) | (rw [if_neg h34, if_neg h34]; exact ⟨rfl, rfl⟩) | exact absurd h34 h46 | exact absurd h46 h34
set_option maxHeartbeats 4000000 in
set_option maxRecDepth 100000 in
theorem c_LazyMachine_restart (l : Launch) (dC : Nat → ClassId) (dI : Nat → Nat → Nat) (cA : ClassId)  (ad : Nat → Nat) (sz : Nat) (M : ZMS)  (hs : ¬ l_ss M = 0) : Met l y_LazyMachine_restart w_LazyMachine_restart ({ frames := 3, cells := 0, slots := 0, locals := 62 } : Room) (va_Pc [.ref (ad 0)] (lm_pre (dC, dI) classes [(cA, .int)] (lz_W cA ad M) sz lm_no)) (va_Qv (fun (u : ZMS) => u = ma_begin M 1) (fun u => lm_at (dC, dI) classes [(cA, .int)] (va_A (lz_W cA ad M) sz) (lz_W cA ad u)) (va_A (lz_W cA ad M) sz)) 0 0 (va_A (lz_W cA ad M) sz) := by
  obtain ⟨⟨ss, sp, fo, ba, no, en, vs, vf, vg⟩, SM, PM, XM, YM⟩ := M
  refine lm_met (fun A => va_Qv (fun (u : ZMS) => u = ma_begin ((ss, sp, fo, ba, no, en, vs, vf, vg), SM, PM, XM, YM) 1) (fun u => lm_at (dC, dI) classes [(cA, .int)] A (lz_W cA ad u)) A) (by decide) rfl (Nat.le_of_ble_eq_true rfl) ?_
  intro p e s m below meth c A hx hb hr hts hown hlocks hname hml hK hP hD hA hE hsz hAe hS ls hl
  replace hl : lv_has ls 1 [(0, .ref (ad 0))] := hl
  clear hAe hsz
  refine lv_aload_n hx hb d_LazyMachine_restart_0 rfl (lv_at hl 0 rfl) ?_
  refine va_get (D := (dC, dI)) (ci := 0) (v := .int ss) (C := R_LazyMachine) (T := F_LazyMachine) (N := 13) hx hb hts (fun q hq => List.mem_cons_of_mem _ (i_LazyMachine q hq)) hown hK hP 0 rfl rfl 4 (by decide) (hts _ (List.mem_cons_of_mem _ m_2_11)) (fun _ h9 => h9) rfl d_LazyMachine_restart_1 ?_
  refine lv_if_ne hx hb d_LazyMachine_restart_4 rfl (fun h4 => ?_) (fun h4 => by exact absurd h4 hs)
  refine lv_aload_n hx hb d_LazyMachine_restart_17 rfl (lv_at hl 0 rfl) ?_
  refine lv_iconst (v := 1) hx hb d_LazyMachine_restart_18 (by decide) ?_
  refine lm_vv (b := ad 0) (As := [.int 1]) (rest := []) (wr := ([] : va_W)) ⟨hx, hb, hml, hown, hts⟩ hK hP hD hS hA [0, 1, 2, 3, 4, 5, 6, 7, 8, 9, 10, 11, 12, 13, 14, 15, 16, 17, 18, 19, 20, 21, 22, 23, 24, 25] [] rfl rfl (by decide) (by decide) (by decide) (c_LazyMachine_begin l dC dI cA ad _ ((ss, sp, fo, ba, no, en, vs, vf, vg), SM, PM, XM, YM) 1 ) (cwV 1 hts (lm_gV m_3_14 m_3_15 m_19_5 m_0_1 m_3_16) rfl rfl rfl (by decide +kernel) ⟨Nat.le_of_ble_eq_true rfl, Nat.le_of_ble_eq_true rfl⟩) (va_recv (q0 := 0) hK hP rfl rfl) lm_bl_no (fun _ _ _ => trivial) hl.1 rfl rfl (Nat.le_of_ble_eq_true rfl) d_LazyMachine_restart_19 ⟨Nat.le_of_ble_eq_true rfl, Nat.le_of_ble_eq_true rfl⟩ (fun u19 H locs w19 hP hD hS => ?_)
  have hP : va_P (dC, dI) classes (lz_W cA ad u19) H := hP
  have hD : va_D A (lz_W cA ad u19) := hD
  refine lm_rv hx hb hr hlocks u19 ?_ hP hK hD hS d_LazyMachine_restart_22
  exact w19
set_option maxHeartbeats 4000000 in
set_option maxRecDepth 100000 in
theorem c_LazyMachine_result (l : Launch) (dC : Nat → ClassId) (dI : Nat → Nat → Nat) (cA : ClassId)  (ad : Nat → Nat) (sz : Nat) (M : ZMS) (x : Int32) (hs : l_ss M = 2) : Met l y_LazyMachine_result w_LazyMachine_result ({ frames := 0, cells := 0, slots := 0, locals := 0 } : Room) (va_Pc [.ref (ad 0), .int x] (lm_pre (dC, dI) classes [(cA, .int)] (lz_W cA ad M) sz lm_no)) (va_Qi (fun (r : Int32) (u : ZMS) => r = ma_result M x ∧ u = M) (fun u => lm_at (dC, dI) classes [(cA, .int)] (va_A (lz_W cA ad M) sz) (lz_W cA ad u)) (va_A (lz_W cA ad M) sz)) 0 0 (va_A (lz_W cA ad M) sz) := by
  obtain ⟨⟨ss, sp, fo, ba, no, en, vs, vf, vg⟩, SM, PM, XM, YM⟩ := M
  refine lm_met (fun A => va_Qi (fun (r : Int32) (u : ZMS) => r = ma_result ((ss, sp, fo, ba, no, en, vs, vf, vg), SM, PM, XM, YM) x ∧ u = ((ss, sp, fo, ba, no, en, vs, vf, vg), SM, PM, XM, YM)) (fun u => lm_at (dC, dI) classes [(cA, .int)] A (lz_W cA ad u)) A) (by decide) rfl (Nat.le_of_ble_eq_true rfl) ?_
  intro p e s m below meth c A hx hb hr hts hown hlocks hname hml hK hP hD hA hE hsz hAe hS ls hl
  replace hl : lv_has ls 3 [(0, .ref (ad 0)), (1, .int x)] := hl
  clear hAe hsz
  refine lv_aload_n hx hb d_LazyMachine_result_0 rfl (lv_at hl 0 rfl) ?_
  refine va_get (D := (dC, dI)) (ci := 0) (v := .int ss) (C := R_LazyMachine) (T := F_LazyMachine) (N := 13) hx hb hts (fun q hq => List.mem_cons_of_mem _ (i_LazyMachine q hq)) hown hK hP 0 rfl rfl 4 (by decide) (hts _ (List.mem_cons_of_mem _ m_2_11)) (fun _ h9 => h9) rfl d_LazyMachine_result_1 ?_
  refine lv_iconst (v := 2) hx hb d_LazyMachine_result_4 (by decide) ?_
  refine lv_icmp_eq hx hb d_LazyMachine_result_5 rfl (fun h5 => ?_) (fun h5 => by exact absurd hs h5)
  refine lv_iload_n hx hb d_LazyMachine_result_18 rfl (lv_at hl 1 rfl) ?_
  refine lv_if_ne hx hb d_LazyMachine_result_19 rfl (fun h19 => ?_) (fun h19 => ?_)
  · refine lv_iload_n hx hb d_LazyMachine_result_27 rfl (lv_at hl 1 rfl) ?_
    refine lv_iconst (v := 1) hx hb d_LazyMachine_result_28 (by decide) ?_
    refine lv_icmp_ne hx hb d_LazyMachine_result_29 rfl (fun h29 => ?_) (fun h29 => ?_)
    · refine lv_iload_n hx hb d_LazyMachine_result_39 rfl (lv_at hl 1 rfl) ?_
      refine lv_iconst (v := 2) hx hb d_LazyMachine_result_40 (by decide) ?_
      refine lv_icmp_ne hx hb d_LazyMachine_result_41 rfl (fun h41 => ?_) (fun h41 => ?_)
      · refine lv_iconst (v := 0) hx hb d_LazyMachine_result_56 (by decide) ?_
        refine lv_istore_n (lv' := [(2, .int 0), (0, .ref (ad 0)), (1, .int x)]) hx hb d_LazyMachine_result_57 rfl hl (by decide) rfl (fun ls hl => ?_)
        refine lv_iload_n hx hb d_LazyMachine_result_58 rfl (lv_at hl 0 rfl) ?_
        refine lv_if_eq hx hb d_LazyMachine_result_59 rfl (fun h59 => ?_) (fun h59 => ?_)
        · refine lv_iconst (v := -1) hx hb d_LazyMachine_result_69 (by decide) ?_
          refine lm_ri (v := (-1)) hx hb hr hlocks ((ss, sp, fo, ba, no, en, vs, vf, vg), SM, PM, XM, YM) ?_ hP hK hD hS d_LazyMachine_result_70
          first | exact absurd h59 (by decide) | exact absurd (h29.symm.trans h41) (by decide) | (unfold ma_result; simp [l_vs, l_vf, h19, h29, h41])
        · refine lv_aload_n hx hb d_LazyMachine_result_62 rfl (lv_at hl 1 rfl) ?_
          refine va_get (D := (dC, dI)) (ci := 0) (v := .int vf) (C := R_LazyMachine) (T := F_LazyMachine) (N := 13) hx hb hts (fun q hq => List.mem_cons_of_mem _ (i_LazyMachine q hq)) hown hK hP 0 rfl rfl 11 (by decide) (hts _ (List.mem_cons_of_mem _ m_2_18)) (fun _ h9 => h9) rfl d_LazyMachine_result_63 ?_
          refine lv_goto hx hb d_LazyMachine_result_66 rfl ?_
          refine lm_ri (v := vf) hx hb hr hlocks ((ss, sp, fo, ba, no, en, vs, vf, vg), SM, PM, XM, YM) ?_ hP hK hD hS d_LazyMachine_result_70
          first | exact absurd h59 (by decide) | exact absurd (h29.symm.trans h41) (by decide) | (unfold ma_result; simp [l_vs, l_vf, h19, h29, h41])
      · refine lv_aload_n hx hb d_LazyMachine_result_44 rfl (lv_at hl 0 rfl) ?_
        refine va_get (D := (dC, dI)) (ci := 0) (v := .int vs) (C := R_LazyMachine) (T := F_LazyMachine) (N := 13) hx hb hts (fun q hq => List.mem_cons_of_mem _ (i_LazyMachine q hq)) hown hK hP 0 rfl rfl 10 (by decide) (hts _ (List.mem_cons_of_mem _ m_2_17)) (fun _ h9 => h9) rfl d_LazyMachine_result_45 ?_
        refine lv_iconst (v := 1) hx hb d_LazyMachine_result_48 (by decide) ?_
        refine lv_icmp_ne hx hb d_LazyMachine_result_49 rfl (fun h49 => ?_) (fun h49 => ?_)
        · refine lv_iconst (v := 0) hx hb d_LazyMachine_result_56 (by decide) ?_
          refine lv_istore_n (lv' := [(2, .int 0), (0, .ref (ad 0)), (1, .int x)]) hx hb d_LazyMachine_result_57 rfl hl (by decide) rfl (fun ls hl => ?_)
          refine lv_iload_n hx hb d_LazyMachine_result_58 rfl (lv_at hl 0 rfl) ?_
          refine lv_if_eq hx hb d_LazyMachine_result_59 rfl (fun h59 => ?_) (fun h59 => ?_)
          · refine lv_iconst (v := -1) hx hb d_LazyMachine_result_69 (by decide) ?_
            refine lm_ri (v := (-1)) hx hb hr hlocks ((ss, sp, fo, ba, no, en, vs, vf, vg), SM, PM, XM, YM) ?_ hP hK hD hS d_LazyMachine_result_70
            first | exact absurd h59 (by decide) | exact absurd (h29.symm.trans h41) (by decide) | (unfold ma_result; simp [l_vs, l_vf, h19, h29, h41, h49])
          · refine lv_aload_n hx hb d_LazyMachine_result_62 rfl (lv_at hl 1 rfl) ?_
            refine va_get (D := (dC, dI)) (ci := 0) (v := .int vf) (C := R_LazyMachine) (T := F_LazyMachine) (N := 13) hx hb hts (fun q hq => List.mem_cons_of_mem _ (i_LazyMachine q hq)) hown hK hP 0 rfl rfl 11 (by decide) (hts _ (List.mem_cons_of_mem _ m_2_18)) (fun _ h9 => h9) rfl d_LazyMachine_result_63 ?_
            refine lv_goto hx hb d_LazyMachine_result_66 rfl ?_
            refine lm_ri (v := vf) hx hb hr hlocks ((ss, sp, fo, ba, no, en, vs, vf, vg), SM, PM, XM, YM) ?_ hP hK hD hS d_LazyMachine_result_70
            first | exact absurd h59 (by decide) | exact absurd (h29.symm.trans h41) (by decide) | (unfold ma_result; simp [l_vs, l_vf, h19, h29, h41, h49])
        · refine lv_iconst (v := 1) hx hb d_LazyMachine_result_52 (by decide) ?_
          refine lv_goto hx hb d_LazyMachine_result_53 rfl ?_
          refine lv_istore_n (lv' := [(2, .int 1), (0, .ref (ad 0)), (1, .int x)]) hx hb d_LazyMachine_result_57 rfl hl (by decide) rfl (fun ls hl => ?_)
          refine lv_iload_n hx hb d_LazyMachine_result_58 rfl (lv_at hl 0 rfl) ?_
          refine lv_if_eq hx hb d_LazyMachine_result_59 rfl (fun h59 => ?_) (fun h59 => ?_)
          · refine lv_iconst (v := -1) hx hb d_LazyMachine_result_69 (by decide) ?_
            refine lm_ri (v := (-1)) hx hb hr hlocks ((ss, sp, fo, ba, no, en, vs, vf, vg), SM, PM, XM, YM) ?_ hP hK hD hS d_LazyMachine_result_70
            first | exact absurd h59 (by decide) | exact absurd (h29.symm.trans h41) (by decide) | (unfold ma_result; simp [l_vs, l_vf, h19, h29, h41, h49])
          · refine lv_aload_n hx hb d_LazyMachine_result_62 rfl (lv_at hl 1 rfl) ?_
            refine va_get (D := (dC, dI)) (ci := 0) (v := .int vf) (C := R_LazyMachine) (T := F_LazyMachine) (N := 13) hx hb hts (fun q hq => List.mem_cons_of_mem _ (i_LazyMachine q hq)) hown hK hP 0 rfl rfl 11 (by decide) (hts _ (List.mem_cons_of_mem _ m_2_18)) (fun _ h9 => h9) rfl d_LazyMachine_result_63 ?_
            refine lv_goto hx hb d_LazyMachine_result_66 rfl ?_
            refine lm_ri (v := vf) hx hb hr hlocks ((ss, sp, fo, ba, no, en, vs, vf, vg), SM, PM, XM, YM) ?_ hP hK hD hS d_LazyMachine_result_70
            first | exact absurd h59 (by decide) | exact absurd (h29.symm.trans h41) (by decide) | (unfold ma_result; simp [l_vs, l_vf, h19, h29, h41, h49])
    · refine lv_aload_n hx hb d_LazyMachine_result_32 rfl (lv_at hl 0 rfl) ?_
      refine va_get (D := (dC, dI)) (ci := 0) (v := .int vs) (C := R_LazyMachine) (T := F_LazyMachine) (N := 13) hx hb hts (fun q hq => List.mem_cons_of_mem _ (i_LazyMachine q hq)) hown hK hP 0 rfl rfl 10 (by decide) (hts _ (List.mem_cons_of_mem _ m_2_17)) (fun _ h9 => h9) rfl d_LazyMachine_result_33 ?_
      refine lv_if_eq hx hb d_LazyMachine_result_36 rfl (fun h36 => ?_) (fun h36 => ?_)
      · refine lv_iconst (v := 1) hx hb d_LazyMachine_result_52 (by decide) ?_
        refine lv_goto hx hb d_LazyMachine_result_53 rfl ?_
        refine lv_istore_n (lv' := [(2, .int 1), (0, .ref (ad 0)), (1, .int x)]) hx hb d_LazyMachine_result_57 rfl hl (by decide) rfl (fun ls hl => ?_)
        refine lv_iload_n hx hb d_LazyMachine_result_58 rfl (lv_at hl 0 rfl) ?_
        refine lv_if_eq hx hb d_LazyMachine_result_59 rfl (fun h59 => ?_) (fun h59 => ?_)
        · refine lv_iconst (v := -1) hx hb d_LazyMachine_result_69 (by decide) ?_
          refine lm_ri (v := (-1)) hx hb hr hlocks ((ss, sp, fo, ba, no, en, vs, vf, vg), SM, PM, XM, YM) ?_ hP hK hD hS d_LazyMachine_result_70
          first | exact absurd h59 (by decide) | exact absurd (h29.symm.trans h41) (by decide) | (unfold ma_result; simp [l_vs, l_vf, h19, h29, h36])
        · refine lv_aload_n hx hb d_LazyMachine_result_62 rfl (lv_at hl 1 rfl) ?_
          refine va_get (D := (dC, dI)) (ci := 0) (v := .int vf) (C := R_LazyMachine) (T := F_LazyMachine) (N := 13) hx hb hts (fun q hq => List.mem_cons_of_mem _ (i_LazyMachine q hq)) hown hK hP 0 rfl rfl 11 (by decide) (hts _ (List.mem_cons_of_mem _ m_2_18)) (fun _ h9 => h9) rfl d_LazyMachine_result_63 ?_
          refine lv_goto hx hb d_LazyMachine_result_66 rfl ?_
          refine lm_ri (v := vf) hx hb hr hlocks ((ss, sp, fo, ba, no, en, vs, vf, vg), SM, PM, XM, YM) ?_ hP hK hD hS d_LazyMachine_result_70
          first | exact absurd h59 (by decide) | exact absurd (h29.symm.trans h41) (by decide) | (unfold ma_result; simp [l_vs, l_vf, h19, h29, h36])
      · refine lv_iload_n hx hb d_LazyMachine_result_39 rfl (lv_at hl 1 rfl) ?_
        refine lv_iconst (v := 2) hx hb d_LazyMachine_result_40 (by decide) ?_
        refine lv_icmp_ne hx hb d_LazyMachine_result_41 rfl (fun h41 => ?_) (fun h41 => ?_)
        · refine lv_iconst (v := 0) hx hb d_LazyMachine_result_56 (by decide) ?_
          refine lv_istore_n (lv' := [(2, .int 0), (0, .ref (ad 0)), (1, .int x)]) hx hb d_LazyMachine_result_57 rfl hl (by decide) rfl (fun ls hl => ?_)
          refine lv_iload_n hx hb d_LazyMachine_result_58 rfl (lv_at hl 0 rfl) ?_
          refine lv_if_eq hx hb d_LazyMachine_result_59 rfl (fun h59 => ?_) (fun h59 => ?_)
          · refine lv_iconst (v := -1) hx hb d_LazyMachine_result_69 (by decide) ?_
            refine lm_ri (v := (-1)) hx hb hr hlocks ((ss, sp, fo, ba, no, en, vs, vf, vg), SM, PM, XM, YM) ?_ hP hK hD hS d_LazyMachine_result_70
            first | exact absurd h59 (by decide) | exact absurd (h29.symm.trans h41) (by decide) | (unfold ma_result; simp [l_vs, l_vf, h19, h29, h36, h41])
          · refine lv_aload_n hx hb d_LazyMachine_result_62 rfl (lv_at hl 1 rfl) ?_
            refine va_get (D := (dC, dI)) (ci := 0) (v := .int vf) (C := R_LazyMachine) (T := F_LazyMachine) (N := 13) hx hb hts (fun q hq => List.mem_cons_of_mem _ (i_LazyMachine q hq)) hown hK hP 0 rfl rfl 11 (by decide) (hts _ (List.mem_cons_of_mem _ m_2_18)) (fun _ h9 => h9) rfl d_LazyMachine_result_63 ?_
            refine lv_goto hx hb d_LazyMachine_result_66 rfl ?_
            refine lm_ri (v := vf) hx hb hr hlocks ((ss, sp, fo, ba, no, en, vs, vf, vg), SM, PM, XM, YM) ?_ hP hK hD hS d_LazyMachine_result_70
            first | exact absurd h59 (by decide) | exact absurd (h29.symm.trans h41) (by decide) | (unfold ma_result; simp [l_vs, l_vf, h19, h29, h36, h41])
        · refine lv_aload_n hx hb d_LazyMachine_result_44 rfl (lv_at hl 0 rfl) ?_
          refine va_get (D := (dC, dI)) (ci := 0) (v := .int vs) (C := R_LazyMachine) (T := F_LazyMachine) (N := 13) hx hb hts (fun q hq => List.mem_cons_of_mem _ (i_LazyMachine q hq)) hown hK hP 0 rfl rfl 10 (by decide) (hts _ (List.mem_cons_of_mem _ m_2_17)) (fun _ h9 => h9) rfl d_LazyMachine_result_45 ?_
          refine lv_iconst (v := 1) hx hb d_LazyMachine_result_48 (by decide) ?_
          refine lv_icmp_ne hx hb d_LazyMachine_result_49 rfl (fun h49 => ?_) (fun h49 => ?_)
          · refine lv_iconst (v := 0) hx hb d_LazyMachine_result_56 (by decide) ?_
            refine lv_istore_n (lv' := [(2, .int 0), (0, .ref (ad 0)), (1, .int x)]) hx hb d_LazyMachine_result_57 rfl hl (by decide) rfl (fun ls hl => ?_)
            refine lv_iload_n hx hb d_LazyMachine_result_58 rfl (lv_at hl 0 rfl) ?_
            refine lv_if_eq hx hb d_LazyMachine_result_59 rfl (fun h59 => ?_) (fun h59 => ?_)
            · refine lv_iconst (v := -1) hx hb d_LazyMachine_result_69 (by decide) ?_
              refine lm_ri (v := (-1)) hx hb hr hlocks ((ss, sp, fo, ba, no, en, vs, vf, vg), SM, PM, XM, YM) ?_ hP hK hD hS d_LazyMachine_result_70
              first | exact absurd h59 (by decide) | exact absurd (h29.symm.trans h41) (by decide) | (unfold ma_result; simp [l_vs, l_vf, h19, h29, h36, h41, h49])
            · refine lv_aload_n hx hb d_LazyMachine_result_62 rfl (lv_at hl 1 rfl) ?_
              refine va_get (D := (dC, dI)) (ci := 0) (v := .int vf) (C := R_LazyMachine) (T := F_LazyMachine) (N := 13) hx hb hts (fun q hq => List.mem_cons_of_mem _ (i_LazyMachine q hq)) hown hK hP 0 rfl rfl 11 (by decide) (hts _ (List.mem_cons_of_mem _ m_2_18)) (fun _ h9 => h9) rfl d_LazyMachine_result_63 ?_
              refine lv_goto hx hb d_LazyMachine_result_66 rfl ?_
              refine lm_ri (v := vf) hx hb hr hlocks ((ss, sp, fo, ba, no, en, vs, vf, vg), SM, PM, XM, YM) ?_ hP hK hD hS d_LazyMachine_result_70
              first | exact absurd h59 (by decide) | exact absurd (h29.symm.trans h41) (by decide) | (unfold ma_result; simp [l_vs, l_vf, h19, h29, h36, h41, h49])
          · refine lv_iconst (v := 1) hx hb d_LazyMachine_result_52 (by decide) ?_
            refine lv_goto hx hb d_LazyMachine_result_53 rfl ?_
            refine lv_istore_n (lv' := [(2, .int 1), (0, .ref (ad 0)), (1, .int x)]) hx hb d_LazyMachine_result_57 rfl hl (by decide) rfl (fun ls hl => ?_)
            refine lv_iload_n hx hb d_LazyMachine_result_58 rfl (lv_at hl 0 rfl) ?_
            refine lv_if_eq hx hb d_LazyMachine_result_59 rfl (fun h59 => ?_) (fun h59 => ?_)
            · refine lv_iconst (v := -1) hx hb d_LazyMachine_result_69 (by decide) ?_
              refine lm_ri (v := (-1)) hx hb hr hlocks ((ss, sp, fo, ba, no, en, vs, vf, vg), SM, PM, XM, YM) ?_ hP hK hD hS d_LazyMachine_result_70
              first | exact absurd h59 (by decide) | exact absurd (h29.symm.trans h41) (by decide) | (unfold ma_result; simp [l_vs, l_vf, h19, h29, h36, h41, h49])
            · refine lv_aload_n hx hb d_LazyMachine_result_62 rfl (lv_at hl 1 rfl) ?_
              refine va_get (D := (dC, dI)) (ci := 0) (v := .int vf) (C := R_LazyMachine) (T := F_LazyMachine) (N := 13) hx hb hts (fun q hq => List.mem_cons_of_mem _ (i_LazyMachine q hq)) hown hK hP 0 rfl rfl 11 (by decide) (hts _ (List.mem_cons_of_mem _ m_2_18)) (fun _ h9 => h9) rfl d_LazyMachine_result_63 ?_
              refine lv_goto hx hb d_LazyMachine_result_66 rfl ?_
              refine lm_ri (v := vf) hx hb hr hlocks ((ss, sp, fo, ba, no, en, vs, vf, vg), SM, PM, XM, YM) ?_ hP hK hD hS d_LazyMachine_result_70
              first | exact absurd h59 (by decide) | exact absurd (h29.symm.trans h41) (by decide) | (unfold ma_result; simp [l_vs, l_vf, h19, h29, h36, h41, h49])
  · refine lv_aload_n hx hb d_LazyMachine_result_22 rfl (lv_at hl 0 rfl) ?_
    refine va_get (D := (dC, dI)) (ci := 0) (v := .int vs) (C := R_LazyMachine) (T := F_LazyMachine) (N := 13) hx hb hts (fun q hq => List.mem_cons_of_mem _ (i_LazyMachine q hq)) hown hK hP 0 rfl rfl 10 (by decide) (hts _ (List.mem_cons_of_mem _ m_2_17)) (fun _ h9 => h9) rfl d_LazyMachine_result_23 ?_
    refine lm_ri (v := vs) hx hb hr hlocks ((ss, sp, fo, ba, no, en, vs, vf, vg), SM, PM, XM, YM) ?_ hP hK hD hS d_LazyMachine_result_26
    first | exact absurd h59 (by decide) | exact absurd (h29.symm.trans h41) (by decide) | (unfold ma_result; simp [l_vs, l_vf, h19])
set_option maxHeartbeats 4000000 in
set_option maxRecDepth 100000 in
theorem c_LazyMachine_into (l : Launch) (dC : Nat → ClassId) (dI : Nat → Nat → Nat) (cA : ClassId)  (ad : Nat → Nat) (sz : Nat) (M : ZMS) (x : Int32) (hs : l_ss M = 2) (hv : l_vs M = 2) (hx1 : x = 0 ∨ x = 1) (hz : pl_ok (m_P M)) (hc : hp_c (l_vf M) ∧ hp_c (l_vg M)) : Met l y_LazyMachine_into w_LazyMachine_into ({ frames := 3, cells := 0, slots := 0, locals := 67 } : Room) (va_Pc [.ref (ad 0), .int x] (lm_pre (dC, dI) classes [(cA, .int)] (lz_W cA ad M) sz lm_no)) (va_Qi (fun (r : Int32) (u : ZMS) => r = (ma_into M x).1 ∧ u = (ma_into M x).2) (fun u => lm_at (dC, dI) classes [(cA, .int)] (va_A (lz_W cA ad M) sz) (lz_W cA ad u)) (va_A (lz_W cA ad M) sz)) 0 0 (va_A (lz_W cA ad M) sz) := by
  obtain ⟨⟨ss, sp, fo, ba, no, en, vs, vf, vg⟩, SM, PM, XM, YM⟩ := M
  refine lm_met (fun A => va_Qi (fun (r : Int32) (u : ZMS) => r = (ma_into ((ss, sp, fo, ba, no, en, vs, vf, vg), SM, PM, XM, YM) x).1 ∧ u = (ma_into ((ss, sp, fo, ba, no, en, vs, vf, vg), SM, PM, XM, YM) x).2) (fun u => lm_at (dC, dI) classes [(cA, .int)] A (lz_W cA ad u)) A) (by decide) rfl (Nat.le_of_ble_eq_true rfl) ?_
  intro p e s m below meth c A hx hb hr hts hown hlocks hname hml hK hP hD hA hE hsz hAe hS ls hl
  replace hl : lv_has ls 2 [(0, .ref (ad 0)), (1, .int x)] := hl
  clear hAe hsz
  refine lv_aload_n hx hb d_LazyMachine_into_0 rfl (lv_at hl 0 rfl) ?_
  refine va_get (D := (dC, dI)) (ci := 0) (v := .int ss) (C := R_LazyMachine) (T := F_LazyMachine) (N := 13) hx hb hts (fun q hq => List.mem_cons_of_mem _ (i_LazyMachine q hq)) hown hK hP 0 rfl rfl 4 (by decide) (hts _ (List.mem_cons_of_mem _ m_2_11)) (fun _ h9 => h9) rfl d_LazyMachine_into_1 ?_
  refine lv_iconst (v := 2) hx hb d_LazyMachine_into_4 (by decide) ?_
  refine lv_icmp_ne hx hb d_LazyMachine_into_5 rfl (fun h5 => by exact absurd hs h5) (fun h5 => ?_)
  refine lv_aload_n hx hb d_LazyMachine_into_8 rfl (lv_at hl 0 rfl) ?_
  refine va_get (D := (dC, dI)) (ci := 0) (v := .int vs) (C := R_LazyMachine) (T := F_LazyMachine) (N := 13) hx hb hts (fun q hq => List.mem_cons_of_mem _ (i_LazyMachine q hq)) hown hK hP 0 rfl rfl 10 (by decide) (hts _ (List.mem_cons_of_mem _ m_2_17)) (fun _ h9 => h9) rfl d_LazyMachine_into_9 ?_
  refine lv_iconst (v := 2) hx hb d_LazyMachine_into_12 (by decide) ?_
  refine lv_icmp_eq hx hb d_LazyMachine_into_13 rfl (fun h13 => ?_) (fun h13 => by exact absurd hv h13)
  refine lv_iload_n hx hb d_LazyMachine_into_26 rfl (lv_at hl 1 rfl) ?_
  refine lv_if_eq hx hb d_LazyMachine_into_27 rfl (fun h27 => ?_) (fun h27 => ?_)
  · refine lv_aload_n hx hb d_LazyMachine_into_45 rfl (lv_at hl 0 rfl) ?_
    refine lv_aload_n hx hb d_LazyMachine_into_46 rfl (lv_at hl 0 rfl) ?_
    refine lv_iload_n hx hb d_LazyMachine_into_47 rfl (lv_at hl 1 rfl) ?_
    refine lv_if_ne hx hb d_LazyMachine_into_48 rfl (fun h48 => ?_) (fun h48 => ?_)
    · refine lv_aload_n hx hb d_LazyMachine_into_58 rfl (lv_at hl 0 rfl) ?_
      refine va_get (D := (dC, dI)) (ci := 0) (v := .int vg) (C := R_LazyMachine) (T := F_LazyMachine) (N := 13) hx hb hts (fun q hq => List.mem_cons_of_mem _ (i_LazyMachine q hq)) hown hK hP 0 rfl rfl 12 (by decide) (hts _ (List.mem_cons_of_mem _ m_2_19)) (fun _ h9 => h9) rfl d_LazyMachine_into_59 ?_
      refine lm_vi (b := ad 0) (As := [.int vg]) (rest := [.ref (ad 0)]) (wr := ([] : va_W)) ⟨hx, hb, hml, hown, hts⟩ hK hP hD hS hA [0, 1, 2, 3, 4, 5, 6, 7, 8, 9, 10, 11, 12, 13, 14, 15, 16, 17, 18, 19, 20, 21, 22, 23, 24, 25] [] rfl rfl (by decide) (by decide) (by decide) (c_LazyMachine_ask l dC dI cA ad _ ((ss, sp, fo, ba, no, en, vs, vf, vg), SM, PM, XM, YM) vg (by first | exact hc.1 | exact hc.2) (by exact hz)) (cwV 1 hts (lm_gV m_10_20 m_10_21 m_19_17 m_0_1 m_10_22) rfl rfl rfl (by decide +kernel) ⟨Nat.le_of_ble_eq_true rfl, Nat.le_of_ble_eq_true rfl⟩) (va_recv (q0 := 0) hK hP rfl rfl) lm_bl_no (fun _ _ _ => trivial) hl.1 rfl rfl (Nat.le_of_ble_eq_true rfl) d_LazyMachine_into_62 ⟨Nat.le_of_ble_eq_true rfl, Nat.le_of_ble_eq_true rfl⟩ (fun r62 u62 H locs w62 hP hD hS => ?_)
      obtain ⟨e_r62, w62⟩ := w62
      have hP : va_P (dC, dI) classes (lz_W cA ad u62) H := hP
      have hD : va_D A (lz_W cA ad u62) := hD
      refine va_put (D := (dC, dI)) (ci := 0) (v := .int r62) (ty := .int) (C := R_LazyMachine) (T := F_LazyMachine) (N := 13) hx hb hts (fun q hq => List.mem_cons_of_mem _ (i_LazyMachine q hq)) t_LazyMachine t_LazyMachine_ok n_LazyMachine hown hK hP hD hS 0 rfl rfl 4 (by decide) (hts _ (List.mem_cons_of_mem _ m_2_11)) (fun _ h9 => h9) rfl (by decide +kernel) rfl rfl (Nat.le_of_ble_eq_true rfl) d_LazyMachine_into_65 (fun H locs hP hD hS => ?_)
      have hP : va_P (dC, dI) classes (lz_W cA ad ((r62, u62.1.2.1, u62.1.2.2.1, u62.1.2.2.2.1, u62.1.2.2.2.2.1, u62.1.2.2.2.2.2.1, u62.1.2.2.2.2.2.2.1, u62.1.2.2.2.2.2.2.2.1, u62.1.2.2.2.2.2.2.2.2), u62.2.1, u62.2.2.1, u62.2.2.2.1, u62.2.2.2.2)) H := hP
      have hD : va_D A (lz_W cA ad ((r62, u62.1.2.1, u62.1.2.2.1, u62.1.2.2.2.1, u62.1.2.2.2.2.1, u62.1.2.2.2.2.2.1, u62.1.2.2.2.2.2.2.1, u62.1.2.2.2.2.2.2.2.1, u62.1.2.2.2.2.2.2.2.2), u62.2.1, u62.2.2.1, u62.2.2.2.1, u62.2.2.2.2)) := hD
      refine lv_aload_n hx hb d_LazyMachine_into_68 rfl (lv_at hl 0 rfl) ?_
      refine va_get (D := (dC, dI)) (ci := 0) (v := .int r62) (C := R_LazyMachine) (T := F_LazyMachine) (N := 13) hx hb hts (fun q hq => List.mem_cons_of_mem _ (i_LazyMachine q hq)) hown hK hP 0 rfl rfl 4 (by decide) (hts _ (List.mem_cons_of_mem _ m_2_11)) (fun _ h9 => h9) rfl d_LazyMachine_into_69 ?_
      refine lm_ri (v := r62) hx hb hr hlocks ((r62, u62.1.2.1, u62.1.2.2.1, u62.1.2.2.2.1, u62.1.2.2.2.2.1, u62.1.2.2.2.2.2.1, u62.1.2.2.2.2.2.2.1, u62.1.2.2.2.2.2.2.2.1, u62.1.2.2.2.2.2.2.2.2), u62.2.1, u62.2.2.1, u62.2.2.2.1, u62.2.2.2.2) ?_ hP hK hD hS d_LazyMachine_into_72
      subst e_r62 w62; unfold ma_into; (first | rw [if_pos h48] | rw [if_neg h48]); exact ⟨rfl, rfl⟩
    · refine lv_aload_n hx hb d_LazyMachine_into_51 rfl (lv_at hl 0 rfl) ?_
      refine va_get (D := (dC, dI)) (ci := 0) (v := .int vf) (C := R_LazyMachine) (T := F_LazyMachine) (N := 13) hx hb hts (fun q hq => List.mem_cons_of_mem _ (i_LazyMachine q hq)) hown hK hP 0 rfl rfl 11 (by decide) (hts _ (List.mem_cons_of_mem _ m_2_18)) (fun _ h9 => h9) rfl d_LazyMachine_into_52 ?_
      refine lv_goto hx hb d_LazyMachine_into_55 rfl ?_
      refine lm_vi (b := ad 0) (As := [.int vf]) (rest := [.ref (ad 0)]) (wr := ([] : va_W)) ⟨hx, hb, hml, hown, hts⟩ hK hP hD hS hA [0, 1, 2, 3, 4, 5, 6, 7, 8, 9, 10, 11, 12, 13, 14, 15, 16, 17, 18, 19, 20, 21, 22, 23, 24, 25] [] rfl rfl (by decide) (by decide) (by decide) (c_LazyMachine_ask l dC dI cA ad _ ((ss, sp, fo, ba, no, en, vs, vf, vg), SM, PM, XM, YM) vf (by first | exact hc.1 | exact hc.2) (by exact hz)) (cwV 1 hts (lm_gV m_10_20 m_10_21 m_19_17 m_0_1 m_10_22) rfl rfl rfl (by decide +kernel) ⟨Nat.le_of_ble_eq_true rfl, Nat.le_of_ble_eq_true rfl⟩) (va_recv (q0 := 0) hK hP rfl rfl) lm_bl_no (fun _ _ _ => trivial) hl.1 rfl rfl (Nat.le_of_ble_eq_true rfl) d_LazyMachine_into_62 ⟨Nat.le_of_ble_eq_true rfl, Nat.le_of_ble_eq_true rfl⟩ (fun r62 u62 H locs w62 hP hD hS => ?_)
      obtain ⟨e_r62, w62⟩ := w62
      have hP : va_P (dC, dI) classes (lz_W cA ad u62) H := hP
      have hD : va_D A (lz_W cA ad u62) := hD
      refine va_put (D := (dC, dI)) (ci := 0) (v := .int r62) (ty := .int) (C := R_LazyMachine) (T := F_LazyMachine) (N := 13) hx hb hts (fun q hq => List.mem_cons_of_mem _ (i_LazyMachine q hq)) t_LazyMachine t_LazyMachine_ok n_LazyMachine hown hK hP hD hS 0 rfl rfl 4 (by decide) (hts _ (List.mem_cons_of_mem _ m_2_11)) (fun _ h9 => h9) rfl (by decide +kernel) rfl rfl (Nat.le_of_ble_eq_true rfl) d_LazyMachine_into_65 (fun H locs hP hD hS => ?_)
      have hP : va_P (dC, dI) classes (lz_W cA ad ((r62, u62.1.2.1, u62.1.2.2.1, u62.1.2.2.2.1, u62.1.2.2.2.2.1, u62.1.2.2.2.2.2.1, u62.1.2.2.2.2.2.2.1, u62.1.2.2.2.2.2.2.2.1, u62.1.2.2.2.2.2.2.2.2), u62.2.1, u62.2.2.1, u62.2.2.2.1, u62.2.2.2.2)) H := hP
      have hD : va_D A (lz_W cA ad ((r62, u62.1.2.1, u62.1.2.2.1, u62.1.2.2.2.1, u62.1.2.2.2.2.1, u62.1.2.2.2.2.2.1, u62.1.2.2.2.2.2.2.1, u62.1.2.2.2.2.2.2.2.1, u62.1.2.2.2.2.2.2.2.2), u62.2.1, u62.2.2.1, u62.2.2.2.1, u62.2.2.2.2)) := hD
      refine lv_aload_n hx hb d_LazyMachine_into_68 rfl (lv_at hl 0 rfl) ?_
      refine va_get (D := (dC, dI)) (ci := 0) (v := .int r62) (C := R_LazyMachine) (T := F_LazyMachine) (N := 13) hx hb hts (fun q hq => List.mem_cons_of_mem _ (i_LazyMachine q hq)) hown hK hP 0 rfl rfl 4 (by decide) (hts _ (List.mem_cons_of_mem _ m_2_11)) (fun _ h9 => h9) rfl d_LazyMachine_into_69 ?_
      refine lm_ri (v := r62) hx hb hr hlocks ((r62, u62.1.2.1, u62.1.2.2.1, u62.1.2.2.2.1, u62.1.2.2.2.2.1, u62.1.2.2.2.2.2.1, u62.1.2.2.2.2.2.2.1, u62.1.2.2.2.2.2.2.2.1, u62.1.2.2.2.2.2.2.2.2), u62.2.1, u62.2.2.1, u62.2.2.2.1, u62.2.2.2.2) ?_ hP hK hD hS d_LazyMachine_into_72
      subst e_r62 w62; unfold ma_into; (first | rw [if_pos h48] | rw [if_neg h48]); exact ⟨rfl, rfl⟩
  · refine lv_iload_n hx hb d_LazyMachine_into_30 rfl (lv_at hl 1 rfl) ?_
    refine lv_iconst (v := 1) hx hb d_LazyMachine_into_31 (by decide) ?_
    refine lv_icmp_eq hx hb d_LazyMachine_into_32 rfl (fun h32 => ?_) (fun h32 => by exact absurd (hx1.resolve_left h27) h32)
    refine lv_aload_n hx hb d_LazyMachine_into_45 rfl (lv_at hl 0 rfl) ?_
    refine lv_aload_n hx hb d_LazyMachine_into_46 rfl (lv_at hl 0 rfl) ?_
    refine lv_iload_n hx hb d_LazyMachine_into_47 rfl (lv_at hl 1 rfl) ?_
    refine lv_if_ne hx hb d_LazyMachine_into_48 rfl (fun h48 => ?_) (fun h48 => ?_)
    · refine lv_aload_n hx hb d_LazyMachine_into_58 rfl (lv_at hl 0 rfl) ?_
      refine va_get (D := (dC, dI)) (ci := 0) (v := .int vg) (C := R_LazyMachine) (T := F_LazyMachine) (N := 13) hx hb hts (fun q hq => List.mem_cons_of_mem _ (i_LazyMachine q hq)) hown hK hP 0 rfl rfl 12 (by decide) (hts _ (List.mem_cons_of_mem _ m_2_19)) (fun _ h9 => h9) rfl d_LazyMachine_into_59 ?_
      refine lm_vi (b := ad 0) (As := [.int vg]) (rest := [.ref (ad 0)]) (wr := ([] : va_W)) ⟨hx, hb, hml, hown, hts⟩ hK hP hD hS hA [0, 1, 2, 3, 4, 5, 6, 7, 8, 9, 10, 11, 12, 13, 14, 15, 16, 17, 18, 19, 20, 21, 22, 23, 24, 25] [] rfl rfl (by decide) (by decide) (by decide) (c_LazyMachine_ask l dC dI cA ad _ ((ss, sp, fo, ba, no, en, vs, vf, vg), SM, PM, XM, YM) vg (by first | exact hc.1 | exact hc.2) (by exact hz)) (cwV 1 hts (lm_gV m_10_20 m_10_21 m_19_17 m_0_1 m_10_22) rfl rfl rfl (by decide +kernel) ⟨Nat.le_of_ble_eq_true rfl, Nat.le_of_ble_eq_true rfl⟩) (va_recv (q0 := 0) hK hP rfl rfl) lm_bl_no (fun _ _ _ => trivial) hl.1 rfl rfl (Nat.le_of_ble_eq_true rfl) d_LazyMachine_into_62 ⟨Nat.le_of_ble_eq_true rfl, Nat.le_of_ble_eq_true rfl⟩ (fun r62 u62 H locs w62 hP hD hS => ?_)
      obtain ⟨e_r62, w62⟩ := w62
      have hP : va_P (dC, dI) classes (lz_W cA ad u62) H := hP
      have hD : va_D A (lz_W cA ad u62) := hD
      refine va_put (D := (dC, dI)) (ci := 0) (v := .int r62) (ty := .int) (C := R_LazyMachine) (T := F_LazyMachine) (N := 13) hx hb hts (fun q hq => List.mem_cons_of_mem _ (i_LazyMachine q hq)) t_LazyMachine t_LazyMachine_ok n_LazyMachine hown hK hP hD hS 0 rfl rfl 4 (by decide) (hts _ (List.mem_cons_of_mem _ m_2_11)) (fun _ h9 => h9) rfl (by decide +kernel) rfl rfl (Nat.le_of_ble_eq_true rfl) d_LazyMachine_into_65 (fun H locs hP hD hS => ?_)
      have hP : va_P (dC, dI) classes (lz_W cA ad ((r62, u62.1.2.1, u62.1.2.2.1, u62.1.2.2.2.1, u62.1.2.2.2.2.1, u62.1.2.2.2.2.2.1, u62.1.2.2.2.2.2.2.1, u62.1.2.2.2.2.2.2.2.1, u62.1.2.2.2.2.2.2.2.2), u62.2.1, u62.2.2.1, u62.2.2.2.1, u62.2.2.2.2)) H := hP
      have hD : va_D A (lz_W cA ad ((r62, u62.1.2.1, u62.1.2.2.1, u62.1.2.2.2.1, u62.1.2.2.2.2.1, u62.1.2.2.2.2.2.1, u62.1.2.2.2.2.2.2.1, u62.1.2.2.2.2.2.2.2.1, u62.1.2.2.2.2.2.2.2.2), u62.2.1, u62.2.2.1, u62.2.2.2.1, u62.2.2.2.2)) := hD
      refine lv_aload_n hx hb d_LazyMachine_into_68 rfl (lv_at hl 0 rfl) ?_
      refine va_get (D := (dC, dI)) (ci := 0) (v := .int r62) (C := R_LazyMachine) (T := F_LazyMachine) (N := 13) hx hb hts (fun q hq => List.mem_cons_of_mem _ (i_LazyMachine q hq)) hown hK hP 0 rfl rfl 4 (by decide) (hts _ (List.mem_cons_of_mem _ m_2_11)) (fun _ h9 => h9) rfl d_LazyMachine_into_69 ?_
      refine lm_ri (v := r62) hx hb hr hlocks ((r62, u62.1.2.1, u62.1.2.2.1, u62.1.2.2.2.1, u62.1.2.2.2.2.1, u62.1.2.2.2.2.2.1, u62.1.2.2.2.2.2.2.1, u62.1.2.2.2.2.2.2.2.1, u62.1.2.2.2.2.2.2.2.2), u62.2.1, u62.2.2.1, u62.2.2.2.1, u62.2.2.2.2) ?_ hP hK hD hS d_LazyMachine_into_72
      subst e_r62 w62; unfold ma_into; (first | rw [if_pos h48] | rw [if_neg h48]); exact ⟨rfl, rfl⟩
    · refine lv_aload_n hx hb d_LazyMachine_into_51 rfl (lv_at hl 0 rfl) ?_
      refine va_get (D := (dC, dI)) (ci := 0) (v := .int vf) (C := R_LazyMachine) (T := F_LazyMachine) (N := 13) hx hb hts (fun q hq => List.mem_cons_of_mem _ (i_LazyMachine q hq)) hown hK hP 0 rfl rfl 11 (by decide) (hts _ (List.mem_cons_of_mem _ m_2_18)) (fun _ h9 => h9) rfl d_LazyMachine_into_52 ?_
      refine lv_goto hx hb d_LazyMachine_into_55 rfl ?_
      refine lm_vi (b := ad 0) (As := [.int vf]) (rest := [.ref (ad 0)]) (wr := ([] : va_W)) ⟨hx, hb, hml, hown, hts⟩ hK hP hD hS hA [0, 1, 2, 3, 4, 5, 6, 7, 8, 9, 10, 11, 12, 13, 14, 15, 16, 17, 18, 19, 20, 21, 22, 23, 24, 25] [] rfl rfl (by decide) (by decide) (by decide) (c_LazyMachine_ask l dC dI cA ad _ ((ss, sp, fo, ba, no, en, vs, vf, vg), SM, PM, XM, YM) vf (by first | exact hc.1 | exact hc.2) (by exact hz)) (cwV 1 hts (lm_gV m_10_20 m_10_21 m_19_17 m_0_1 m_10_22) rfl rfl rfl (by decide +kernel) ⟨Nat.le_of_ble_eq_true rfl, Nat.le_of_ble_eq_true rfl⟩) (va_recv (q0 := 0) hK hP rfl rfl) lm_bl_no (fun _ _ _ => trivial) hl.1 rfl rfl (Nat.le_of_ble_eq_true rfl) d_LazyMachine_into_62 ⟨Nat.le_of_ble_eq_true rfl, Nat.le_of_ble_eq_true rfl⟩ (fun r62 u62 H locs w62 hP hD hS => ?_)
      obtain ⟨e_r62, w62⟩ := w62
      have hP : va_P (dC, dI) classes (lz_W cA ad u62) H := hP
      have hD : va_D A (lz_W cA ad u62) := hD
      refine va_put (D := (dC, dI)) (ci := 0) (v := .int r62) (ty := .int) (C := R_LazyMachine) (T := F_LazyMachine) (N := 13) hx hb hts (fun q hq => List.mem_cons_of_mem _ (i_LazyMachine q hq)) t_LazyMachine t_LazyMachine_ok n_LazyMachine hown hK hP hD hS 0 rfl rfl 4 (by decide) (hts _ (List.mem_cons_of_mem _ m_2_11)) (fun _ h9 => h9) rfl (by decide +kernel) rfl rfl (Nat.le_of_ble_eq_true rfl) d_LazyMachine_into_65 (fun H locs hP hD hS => ?_)
      have hP : va_P (dC, dI) classes (lz_W cA ad ((r62, u62.1.2.1, u62.1.2.2.1, u62.1.2.2.2.1, u62.1.2.2.2.2.1, u62.1.2.2.2.2.2.1, u62.1.2.2.2.2.2.2.1, u62.1.2.2.2.2.2.2.2.1, u62.1.2.2.2.2.2.2.2.2), u62.2.1, u62.2.2.1, u62.2.2.2.1, u62.2.2.2.2)) H := hP
      have hD : va_D A (lz_W cA ad ((r62, u62.1.2.1, u62.1.2.2.1, u62.1.2.2.2.1, u62.1.2.2.2.2.1, u62.1.2.2.2.2.2.1, u62.1.2.2.2.2.2.2.1, u62.1.2.2.2.2.2.2.2.1, u62.1.2.2.2.2.2.2.2.2), u62.2.1, u62.2.2.1, u62.2.2.2.1, u62.2.2.2.2)) := hD
      refine lv_aload_n hx hb d_LazyMachine_into_68 rfl (lv_at hl 0 rfl) ?_
      refine va_get (D := (dC, dI)) (ci := 0) (v := .int r62) (C := R_LazyMachine) (T := F_LazyMachine) (N := 13) hx hb hts (fun q hq => List.mem_cons_of_mem _ (i_LazyMachine q hq)) hown hK hP 0 rfl rfl 4 (by decide) (hts _ (List.mem_cons_of_mem _ m_2_11)) (fun _ h9 => h9) rfl d_LazyMachine_into_69 ?_
      refine lm_ri (v := r62) hx hb hr hlocks ((r62, u62.1.2.1, u62.1.2.2.1, u62.1.2.2.2.1, u62.1.2.2.2.2.1, u62.1.2.2.2.2.2.1, u62.1.2.2.2.2.2.2.1, u62.1.2.2.2.2.2.2.2.1, u62.1.2.2.2.2.2.2.2.2), u62.2.1, u62.2.2.1, u62.2.2.2.1, u62.2.2.2.2) ?_ hP hK hD hS d_LazyMachine_into_72
      subst e_r62 w62; unfold ma_into; (first | rw [if_pos h48] | rw [if_neg h48]); exact ⟨rfl, rfl⟩
set_option maxHeartbeats 4000000 in
set_option maxRecDepth 100000 in
theorem c_LazyMachine_apply (l : Launch) (dC : Nat → ClassId) (dI : Nat → Nat → Nat) (cA : ClassId)  (ad : Nat → Nat) (sz : Nat) (M : ZMS) (x : Int32) (hi : ma_lo M) (hs : l_ss M = 2) (hv : l_vs M = 1) (hn : vp_in (l_vf M) 200) : Met l y_LazyMachine_apply w_LazyMachine_apply ({ frames := 4, cells := 0, slots := 0, locals := 87 } : Room) (va_Pc [.ref (ad 0), .int x] (lm_pre (dC, dI) classes [(cA, .int)] (lz_W cA ad M) sz lm_no)) (va_Qi (fun (r : Int32) (u : ZMS) => r = (ma_app M x).1 ∧ u = (ma_app M x).2) (fun u => lm_at (dC, dI) classes [(cA, .int)] (va_A (lz_W cA ad M) sz) (lz_W cA ad u)) (va_A (lz_W cA ad M) sz)) 0 0 (va_A (lz_W cA ad M) sz) := by
  obtain ⟨⟨ss, sp, fo, ba, no, en, vs, vf, vg⟩, SM, PM, XM, YM⟩ := M
  refine lm_met (fun A => va_Qi (fun (r : Int32) (u : ZMS) => r = (ma_app ((ss, sp, fo, ba, no, en, vs, vf, vg), SM, PM, XM, YM) x).1 ∧ u = (ma_app ((ss, sp, fo, ba, no, en, vs, vf, vg), SM, PM, XM, YM) x).2) (fun u => lm_at (dC, dI) classes [(cA, .int)] A (lz_W cA ad u)) A) (by decide) rfl (Nat.le_of_ble_eq_true rfl) ?_
  intro p e s m below meth c A hx hb hr hts hown hlocks hname hml hK hP hD hA hE hsz hAe hS ls hl
  replace hl : lv_has ls 2 [(0, .ref (ad 0)), (1, .int x)] := hl
  clear hAe hsz
  refine lv_aload_n hx hb d_LazyMachine_apply_0 rfl (lv_at hl 0 rfl) ?_
  refine va_get (D := (dC, dI)) (ci := 0) (v := .int ss) (C := R_LazyMachine) (T := F_LazyMachine) (N := 13) hx hb hts (fun q hq => List.mem_cons_of_mem _ (i_LazyMachine q hq)) hown hK hP 0 rfl rfl 4 (by decide) (hts _ (List.mem_cons_of_mem _ m_2_11)) (fun _ h9 => h9) rfl d_LazyMachine_apply_1 ?_
  refine lv_iconst (v := 2) hx hb d_LazyMachine_apply_4 (by decide) ?_
  refine lv_icmp_ne hx hb d_LazyMachine_apply_5 rfl (fun h5 => by exact absurd hs h5) (fun h5 => ?_)
  refine lv_aload_n hx hb d_LazyMachine_apply_8 rfl (lv_at hl 0 rfl) ?_
  refine va_get (D := (dC, dI)) (ci := 0) (v := .int vs) (C := R_LazyMachine) (T := F_LazyMachine) (N := 13) hx hb hts (fun q hq => List.mem_cons_of_mem _ (i_LazyMachine q hq)) hown hK hP 0 rfl rfl 10 (by decide) (hts _ (List.mem_cons_of_mem _ m_2_17)) (fun _ h9 => h9) rfl d_LazyMachine_apply_9 ?_
  refine lv_iconst (v := 1) hx hb d_LazyMachine_apply_12 (by decide) ?_
  refine lv_icmp_eq hx hb d_LazyMachine_apply_13 rfl (fun h13 => ?_) (fun h13 => by exact absurd hv h13)
  refine lv_aload_n hx hb d_LazyMachine_apply_26 rfl (lv_at hl 0 rfl) ?_
  refine lv_iconst (v := 2) hx hb d_LazyMachine_apply_27 (by decide) ?_
  refine lm_vi (b := ad 0) (As := [.int 2]) (rest := []) (wr := ([] : va_W)) ⟨hx, hb, hml, hown, hts⟩ hK hP hD hS hA [0, 1, 2, 3, 4, 5, 6, 7, 8, 9, 10, 11, 12, 13, 14, 15, 16, 17, 18, 19, 20, 21, 22, 23, 24, 25] [] rfl rfl (by decide) (by decide) (by decide) (c_LazyMachine_hasRoomFor l dC dI cA ad _ ((ss, sp, fo, ba, no, en, vs, vf, vg), SM, PM, XM, YM) 2 (by exact hi)) (cwV 1 hts (lm_gV m_8_7 m_8_8 m_19_10 m_0_1 m_8_9) rfl rfl rfl (by decide +kernel) ⟨Nat.le_of_ble_eq_true rfl, Nat.le_of_ble_eq_true rfl⟩) (va_recv (q0 := 0) hK hP rfl rfl) lm_bl_no (fun _ _ _ => trivial) hl.1 rfl rfl (Nat.le_of_ble_eq_true rfl) d_LazyMachine_apply_28 ⟨Nat.le_of_ble_eq_true rfl, Nat.le_of_ble_eq_true rfl⟩ (fun r28 u28 H locs w28 hP hD hS => ?_)
  obtain ⟨e_r28, w28⟩ := w28
  have hP : va_P (dC, dI) classes (lz_W cA ad u28) H := hP
  have hD : va_D A (lz_W cA ad u28) := hD
  refine lv_if_eq hx hb d_LazyMachine_apply_31 rfl (fun h31 => ?_) (fun h31 => ?_)
  · refine lv_aload_n hx hb d_LazyMachine_apply_56 rfl (lv_at hl 0 rfl) ?_
    refine lv_bipush (v := 6) hx hb d_LazyMachine_apply_57 (by decide) ?_
    refine va_put (D := (dC, dI)) (ci := 0) (v := .int 6) (ty := .int) (C := R_LazyMachine) (T := F_LazyMachine) (N := 13) hx hb hts (fun q hq => List.mem_cons_of_mem _ (i_LazyMachine q hq)) t_LazyMachine t_LazyMachine_ok n_LazyMachine hown hK hP hD hS 0 rfl rfl 4 (by decide) (hts _ (List.mem_cons_of_mem _ m_2_11)) (fun _ h9 => h9) rfl (by decide +kernel) rfl rfl (Nat.le_of_ble_eq_true rfl) d_LazyMachine_apply_59 (fun H locs hP hD hS => ?_)
    have hP : va_P (dC, dI) classes (lz_W cA ad ((6, u28.1.2.1, u28.1.2.2.1, u28.1.2.2.2.1, u28.1.2.2.2.2.1, u28.1.2.2.2.2.2.1, u28.1.2.2.2.2.2.2.1, u28.1.2.2.2.2.2.2.2.1, u28.1.2.2.2.2.2.2.2.2), u28.2.1, u28.2.2.1, u28.2.2.2.1, u28.2.2.2.2)) H := hP
    have hD : va_D A (lz_W cA ad ((6, u28.1.2.1, u28.1.2.2.1, u28.1.2.2.2.1, u28.1.2.2.2.2.1, u28.1.2.2.2.2.2.1, u28.1.2.2.2.2.2.2.1, u28.1.2.2.2.2.2.2.2.1, u28.1.2.2.2.2.2.2.2.2), u28.2.1, u28.2.2.1, u28.2.2.2.1, u28.2.2.2.2)) := hD
    refine lv_aload_n hx hb d_LazyMachine_apply_62 rfl (lv_at hl 0 rfl) ?_
    refine va_get (D := (dC, dI)) (ci := 0) (v := .int 6) (C := R_LazyMachine) (T := F_LazyMachine) (N := 13) hx hb hts (fun q hq => List.mem_cons_of_mem _ (i_LazyMachine q hq)) hown hK hP 0 rfl rfl 4 (by decide) (hts _ (List.mem_cons_of_mem _ m_2_11)) (fun _ h9 => h9) rfl d_LazyMachine_apply_63 ?_
    refine lm_ri (v := 6) hx hb hr hlocks ((6, u28.1.2.1, u28.1.2.2.1, u28.1.2.2.2.1, u28.1.2.2.2.2.1, u28.1.2.2.2.2.2.1, u28.1.2.2.2.2.2.2.1, u28.1.2.2.2.2.2.2.2.1, u28.1.2.2.2.2.2.2.2.2), u28.2.1, u28.2.2.1, u28.2.2.2.1, u28.2.2.2.2) ?_ hP hK hD hS d_LazyMachine_apply_66
    subst e_r28 w28; unfold ma_app; (first | rw [if_pos h31] | rw [if_neg h31]); exact ⟨rfl, rfl⟩
  · refine lv_aload_n hx hb d_LazyMachine_apply_34 rfl (lv_at hl 0 rfl) ?_
    refine lv_aload_n hx hb d_LazyMachine_apply_35 rfl (lv_at hl 0 rfl) ?_
    refine va_get (D := (dC, dI)) (ci := 0) (v := .ref (ad 1)) (C := R_LazyMachine) (T := F_LazyMachine) (N := 13) hx hb hts (fun q hq => List.mem_cons_of_mem _ (i_LazyMachine q hq)) hown hK hP 0 rfl rfl 0 (by decide) (hts _ (List.mem_cons_of_mem _ m_2_7)) (fun _ h9 => h9) rfl d_LazyMachine_apply_36 ?_
    refine lv_iconst (v := 0) hx hb d_LazyMachine_apply_39 (by decide) ?_
    refine lv_iload_n hx hb d_LazyMachine_apply_40 rfl (lv_at hl 1 rfl) ?_
    refine lv_iconst (v := -1) hx hb d_LazyMachine_apply_41 (by decide) ?_
    refine lm_vi (b := ad 1) (As := [.int 0, .int x, .int (-1)]) (rest := [.ref (ad 0)]) (wr := (ma_W cA ad u28.1) ++ (pl_W cA (fun k => ad (k + 8)) u28.2.2.1) ++ (tm_W cA (fun k => ad (k + 12)) u28.2.2.2.1) ++ (tm_W cA (fun k => ad (k + 19)) u28.2.2.2.2)) ⟨hx, hb, hml, hown, hts⟩ hK hP hD hS hA [1, 2, 3, 4, 5, 6, 7] [0, 8, 9, 10, 11, 12, 13, 14, 15, 16, 17, 18, 19, 20, 21, 22, 23, 24, 25] rfl rfl (by decide) (by decide) (by decide) (c_Heap_take l dC dI cA (fun k => ad (k + 1)) _ u28.2.1 0 x (-1) (by show hp_fok (m_H u28); rw [w28]; exact (ma_lo_room hi).2.1)) (cwV 3 hts (lm_gV m_8_22 m_8_23 m_9_0 m_0_2 m_9_1) rfl rfl rfl (by decide +kernel) ⟨Nat.le_of_ble_eq_true rfl, Nat.le_of_ble_eq_true rfl⟩) (va_recv (q0 := 1) hK hP rfl rfl) lm_bl_no (fun _ _ _ => trivial) hl.1 rfl rfl (Nat.le_of_ble_eq_true rfl) d_LazyMachine_apply_42 ⟨Nat.le_of_ble_eq_true rfl, Nat.le_of_ble_eq_true rfl⟩ (fun r42 u42 H locs w42 hP hD hS => ?_)
    obtain ⟨e_r42, w42⟩ := w42
    have hP : va_P (dC, dI) classes (lz_W cA ad (u28.1, u42, u28.2.2.1, u28.2.2.2.1, u28.2.2.2.2)) H := hP.sub [0, 19, 20, 21, 22, 23, 24, 25, 1, 2, 3, 4, 5, 6, 7, 8, 9, 10, 11, 12, 13, 14, 15, 16, 17, 18] rfl
    have hD : va_D A (lz_W cA ad (u28.1, u42, u28.2.2.1, u28.2.2.2.1, u28.2.2.2.2)) := hD.sub [0, 19, 20, 21, 22, 23, 24, 25, 1, 2, 3, 4, 5, 6, 7, 8, 9, 10, 11, 12, 13, 14, 15, 16, 17, 18] (by decide) rfl
    refine lm_vv (b := ad 0) (As := [.int r42]) (rest := []) (wr := ([] : va_W)) ⟨hx, hb, hml, hown, hts⟩ hK hP hD hS hA [0, 1, 2, 3, 4, 5, 6, 7, 8, 9, 10, 11, 12, 13, 14, 15, 16, 17, 18, 19, 20, 21, 22, 23, 24, 25] [] rfl rfl (by decide) (by decide) (by decide) (c_LazyMachine_enterFunction l dC dI cA ad _ (u28.1, u42, u28.2.2.1, u28.2.2.2.1, u28.2.2.2.2) r42 (by show vp_in (l_vf u28) 200; rw [w28, ma_room_vf]; exact hn) (by show hp_fok u42; rw [w42, w28]; exact hp_fok_take (ma_lo_room hi).2.1)) (cwV 1 hts (lm_gV m_8_15 m_8_16 m_19_11 m_0_1 m_8_17) rfl rfl rfl (by decide +kernel) ⟨Nat.le_of_ble_eq_true rfl, Nat.le_of_ble_eq_true rfl⟩) (va_recv (q0 := 0) hK hP rfl rfl) lm_bl_no (fun _ _ _ => trivial) hl.1 rfl rfl (Nat.le_of_ble_eq_true rfl) d_LazyMachine_apply_45 ⟨Nat.le_of_ble_eq_true rfl, Nat.le_of_ble_eq_true rfl⟩ (fun u45 H locs w45 hP hD hS => ?_)
    have hP : va_P (dC, dI) classes (lz_W cA ad u45) H := hP
    have hD : va_D A (lz_W cA ad u45) := hD
    refine lv_aload_n hx hb d_LazyMachine_apply_48 rfl (lv_at hl 0 rfl) ?_
    refine lv_iconst (v := 1) hx hb d_LazyMachine_apply_49 (by decide) ?_
    refine va_put (D := (dC, dI)) (ci := 0) (v := .int 1) (ty := .int) (C := R_LazyMachine) (T := F_LazyMachine) (N := 13) hx hb hts (fun q hq => List.mem_cons_of_mem _ (i_LazyMachine q hq)) t_LazyMachine t_LazyMachine_ok n_LazyMachine hown hK hP hD hS 0 rfl rfl 4 (by decide) (hts _ (List.mem_cons_of_mem _ m_2_11)) (fun _ h9 => h9) rfl (by decide +kernel) rfl rfl (Nat.le_of_ble_eq_true rfl) d_LazyMachine_apply_50 (fun H locs hP hD hS => ?_)
    have hP : va_P (dC, dI) classes (lz_W cA ad ((1, u45.1.2.1, u45.1.2.2.1, u45.1.2.2.2.1, u45.1.2.2.2.2.1, u45.1.2.2.2.2.2.1, u45.1.2.2.2.2.2.2.1, u45.1.2.2.2.2.2.2.2.1, u45.1.2.2.2.2.2.2.2.2), u45.2.1, u45.2.2.1, u45.2.2.2.1, u45.2.2.2.2)) H := hP
    have hD : va_D A (lz_W cA ad ((1, u45.1.2.1, u45.1.2.2.1, u45.1.2.2.2.1, u45.1.2.2.2.2.1, u45.1.2.2.2.2.2.1, u45.1.2.2.2.2.2.2.1, u45.1.2.2.2.2.2.2.2.1, u45.1.2.2.2.2.2.2.2.2), u45.2.1, u45.2.2.1, u45.2.2.2.1, u45.2.2.2.2)) := hD
    refine lv_goto hx hb d_LazyMachine_apply_53 rfl ?_
    refine lv_aload_n hx hb d_LazyMachine_apply_62 rfl (lv_at hl 0 rfl) ?_
    refine va_get (D := (dC, dI)) (ci := 0) (v := .int 1) (C := R_LazyMachine) (T := F_LazyMachine) (N := 13) hx hb hts (fun q hq => List.mem_cons_of_mem _ (i_LazyMachine q hq)) hown hK hP 0 rfl rfl 4 (by decide) (hts _ (List.mem_cons_of_mem _ m_2_11)) (fun _ h9 => h9) rfl d_LazyMachine_apply_63 ?_
    refine lm_ri (v := 1) hx hb hr hlocks ((1, u45.1.2.1, u45.1.2.2.1, u45.1.2.2.2.1, u45.1.2.2.2.2.1, u45.1.2.2.2.2.2.1, u45.1.2.2.2.2.2.2.1, u45.1.2.2.2.2.2.2.2.1, u45.1.2.2.2.2.2.2.2.2), u45.2.1, u45.2.2.1, u45.2.2.2.1, u45.2.2.2.2) ?_ hP hK hD hS d_LazyMachine_apply_66
    subst e_r28 w28 e_r42 w42 w45; unfold ma_app; (first | rw [if_pos h31] | rw [if_neg h31]); exact ⟨rfl, rfl⟩
set_option maxHeartbeats 4000000 in
set_option maxRecDepth 100000 in
theorem c_LazyMachine_count (l : Launch) (dC : Nat → ClassId) (dI : Nat → Nat → Nat) (cA : ClassId)  (ad : Nat → Nat) (sz : Nat) (M : ZMS) (x : Int32) (hi : x = 6 → ma_lo M) : Met l y_LazyMachine_count w_LazyMachine_count ({ frames := 3, cells := 0, slots := 0, locals := 66 } : Room) (va_Pc [.ref (ad 0), .int x] (lm_pre (dC, dI) classes [(cA, .int)] (lz_W cA ad M) sz lm_no)) (va_Qi (fun (r : Int32) (u : ZMS) => r = (ma_count M x).1 ∧ u = (ma_count M x).2) (fun u => lm_at (dC, dI) classes [(cA, .int)] (va_A (lz_W cA ad M) sz) (lz_W cA ad u)) (va_A (lz_W cA ad M) sz)) 0 0 (va_A (lz_W cA ad M) sz) := by
  obtain ⟨⟨ss, sp, fo, ba, no, en, vs, vf, vg⟩, SM, PM, XM, YM⟩ := M
  refine lm_met (fun A => va_Qi (fun (r : Int32) (u : ZMS) => r = (ma_count ((ss, sp, fo, ba, no, en, vs, vf, vg), SM, PM, XM, YM) x).1 ∧ u = (ma_count ((ss, sp, fo, ba, no, en, vs, vf, vg), SM, PM, XM, YM) x).2) (fun u => lm_at (dC, dI) classes [(cA, .int)] A (lz_W cA ad u)) A) (by decide) rfl (Nat.le_of_ble_eq_true rfl) ?_
  intro p e s m below meth c A hx hb hr hts hown hlocks hname hml hK hP hD hA hE hsz hAe hS ls hl
  replace hl : lv_has ls 2 [(0, .ref (ad 0)), (1, .int x)] := hl
  clear hAe hsz
  refine lv_iload_n hx hb d_LazyMachine_count_0 rfl (lv_at hl 1 rfl) ?_
  by_cases h1_0 : x = 0
  · refine lv_tableIn (tgt := 52) hx hb d_LazyMachine_count_1 (by rw [h1_0]; decide) (by rw [h1_0]; decide) (by rw [h1_0]; rfl) rfl ?_
    refine lv_aload_n hx hb d_LazyMachine_count_52 rfl (lv_at hl 0 rfl) ?_
    refine va_get (D := (dC, dI)) (ci := 0) (v := .ref (ad 12)) (C := R_LazyMachine) (T := F_LazyMachine) (N := 13) hx hb hts (fun q hq => List.mem_cons_of_mem _ (i_LazyMachine q hq)) hown hK hP 0 rfl rfl 2 (by decide) (hts _ (List.mem_cons_of_mem _ m_2_9)) (fun _ h9 => h9) rfl d_LazyMachine_count_53 ?_
    refine lm_vi (b := ad 12) (As := []) (rest := []) (wr := (ma_W cA ad (ss, sp, fo, ba, no, en, vs, vf, vg)) ++ (hp_W cA (fun k => ad (k + 1)) SM) ++ (pl_W cA (fun k => ad (k + 8)) PM) ++ (tm_W cA (fun k => ad (k + 19)) YM)) ⟨hx, hb, hml, hown, hts⟩ hK hP hD hS hA [12, 13, 14, 15, 16, 17, 18] [0, 1, 2, 3, 4, 5, 6, 7, 8, 9, 10, 11, 19, 20, 21, 22, 23, 24, 25] rfl rfl (by decide) (by decide) (by decide) (c_Term_size l dC dI cA (fun k => ad (k + 12)) _ XM  ) (cwV 0 hts (lm_gV m_4_16 m_4_17 m_4_18 m_0_4 m_4_19) rfl rfl rfl (by decide +kernel) ⟨Nat.le_of_ble_eq_true rfl, Nat.le_of_ble_eq_true rfl⟩) (va_recv (q0 := 12) hK hP rfl rfl) lm_bl_no (fun _ _ _ => trivial) hl.1 rfl rfl (Nat.le_of_ble_eq_true rfl) d_LazyMachine_count_56 ⟨Nat.le_of_ble_eq_true rfl, Nat.le_of_ble_eq_true rfl⟩ (fun r56 u56 H locs w56 hP hD hS => ?_)
    obtain ⟨e_r56, w56⟩ := w56
    replace e_r56 := e_r56.symm
    subst e_r56
    replace w56 := w56.symm
    subst w56
    have hP : va_P (dC, dI) classes (lz_W cA ad ((ss, sp, fo, ba, no, en, vs, vf, vg), SM, PM, XM, YM)) H := hP.sub [0, 1, 2, 3, 4, 5, 6, 7, 8, 9, 10, 11, 19, 20, 21, 22, 23, 24, 25, 12, 13, 14, 15, 16, 17, 18] rfl
    have hD : va_D A (lz_W cA ad ((ss, sp, fo, ba, no, en, vs, vf, vg), SM, PM, XM, YM)) := hD.sub [0, 1, 2, 3, 4, 5, 6, 7, 8, 9, 10, 11, 19, 20, 21, 22, 23, 24, 25, 12, 13, 14, 15, 16, 17, 18] (by decide) rfl
    refine lm_ri (v := (t_sz XM)) hx hb hr hlocks ((ss, sp, fo, ba, no, en, vs, vf, vg), SM, PM, XM, YM) ?_ hP hK hD hS d_LazyMachine_count_59
    unfold ma_count; rw [if_pos h1_0]; exact ⟨rfl, rfl⟩
  by_cases h1_1 : x = 1
  · refine lv_tableIn (tgt := 60) hx hb d_LazyMachine_count_1 (by rw [h1_1]; decide) (by rw [h1_1]; decide) (by rw [h1_1]; rfl) rfl ?_
    refine lv_aload_n hx hb d_LazyMachine_count_60 rfl (lv_at hl 0 rfl) ?_
    refine va_get (D := (dC, dI)) (ci := 0) (v := .ref (ad 19)) (C := R_LazyMachine) (T := F_LazyMachine) (N := 13) hx hb hts (fun q hq => List.mem_cons_of_mem _ (i_LazyMachine q hq)) hown hK hP 0 rfl rfl 3 (by decide) (hts _ (List.mem_cons_of_mem _ m_2_10)) (fun _ h9 => h9) rfl d_LazyMachine_count_61 ?_
    refine lm_vi (b := ad 19) (As := []) (rest := []) (wr := (ma_W cA ad (ss, sp, fo, ba, no, en, vs, vf, vg)) ++ (hp_W cA (fun k => ad (k + 1)) SM) ++ (pl_W cA (fun k => ad (k + 8)) PM) ++ (tm_W cA (fun k => ad (k + 12)) XM)) ⟨hx, hb, hml, hown, hts⟩ hK hP hD hS hA [19, 20, 21, 22, 23, 24, 25] [0, 1, 2, 3, 4, 5, 6, 7, 8, 9, 10, 11, 12, 13, 14, 15, 16, 17, 18] rfl rfl (by decide) (by decide) (by decide) (c_Term_size l dC dI cA (fun k => ad (k + 19)) _ YM  ) (cwV 0 hts (lm_gV m_4_16 m_4_17 m_4_18 m_0_4 m_4_19) rfl rfl rfl (by decide +kernel) ⟨Nat.le_of_ble_eq_true rfl, Nat.le_of_ble_eq_true rfl⟩) (va_recv (q0 := 19) hK hP rfl rfl) lm_bl_no (fun _ _ _ => trivial) hl.1 rfl rfl (Nat.le_of_ble_eq_true rfl) d_LazyMachine_count_64 ⟨Nat.le_of_ble_eq_true rfl, Nat.le_of_ble_eq_true rfl⟩ (fun r64 u64 H locs w64 hP hD hS => ?_)
    obtain ⟨e_r64, w64⟩ := w64
    replace e_r64 := e_r64.symm
    subst e_r64
    replace w64 := w64.symm
    subst w64
    have hP : va_P (dC, dI) classes (lz_W cA ad ((ss, sp, fo, ba, no, en, vs, vf, vg), SM, PM, XM, YM)) H := hP
    have hD : va_D A (lz_W cA ad ((ss, sp, fo, ba, no, en, vs, vf, vg), SM, PM, XM, YM)) := hD
    refine lm_ri (v := (t_sz YM)) hx hb hr hlocks ((ss, sp, fo, ba, no, en, vs, vf, vg), SM, PM, XM, YM) ?_ hP hK hD hS d_LazyMachine_count_67
    unfold ma_count; rw [if_neg h1_0]; rw [if_pos h1_1]; exact ⟨rfl, rfl⟩
  by_cases h1_2 : x = 2
  · refine lv_tableIn (tgt := 68) hx hb d_LazyMachine_count_1 (by rw [h1_2]; decide) (by rw [h1_2]; decide) (by rw [h1_2]; rfl) rfl ?_
    refine lv_aload_n hx hb d_LazyMachine_count_68 rfl (lv_at hl 0 rfl) ?_
    refine va_get (D := (dC, dI)) (ci := 0) (v := .int ss) (C := R_LazyMachine) (T := F_LazyMachine) (N := 13) hx hb hts (fun q hq => List.mem_cons_of_mem _ (i_LazyMachine q hq)) hown hK hP 0 rfl rfl 4 (by decide) (hts _ (List.mem_cons_of_mem _ m_2_11)) (fun _ h9 => h9) rfl d_LazyMachine_count_69 ?_
    refine lm_ri (v := ss) hx hb hr hlocks ((ss, sp, fo, ba, no, en, vs, vf, vg), SM, PM, XM, YM) ?_ hP hK hD hS d_LazyMachine_count_72
    unfold ma_count; rw [if_neg h1_0]; rw [if_neg h1_1]; rw [if_pos h1_2]; exact ⟨rfl, rfl⟩
  by_cases h1_3 : x = 3
  · refine lv_tableIn (tgt := 73) hx hb d_LazyMachine_count_1 (by rw [h1_3]; decide) (by rw [h1_3]; decide) (by rw [h1_3]; rfl) rfl ?_
    refine lv_aload_n hx hb d_LazyMachine_count_73 rfl (lv_at hl 0 rfl) ?_
    refine va_get (D := (dC, dI)) (ci := 0) (v := .int sp) (C := R_LazyMachine) (T := F_LazyMachine) (N := 13) hx hb hts (fun q hq => List.mem_cons_of_mem _ (i_LazyMachine q hq)) hown hK hP 0 rfl rfl 5 (by decide) (hts _ (List.mem_cons_of_mem _ m_2_12)) (fun _ h9 => h9) rfl d_LazyMachine_count_74 ?_
    refine lm_ri (v := sp) hx hb hr hlocks ((ss, sp, fo, ba, no, en, vs, vf, vg), SM, PM, XM, YM) ?_ hP hK hD hS d_LazyMachine_count_77
    unfold ma_count; rw [if_neg h1_0]; rw [if_neg h1_1]; rw [if_neg h1_2]; rw [if_pos h1_3]; exact ⟨rfl, rfl⟩
  by_cases h1_4 : x = 4
  · refine lv_tableIn (tgt := 78) hx hb d_LazyMachine_count_1 (by rw [h1_4]; decide) (by rw [h1_4]; decide) (by rw [h1_4]; rfl) rfl ?_
    refine lv_aload_n hx hb d_LazyMachine_count_78 rfl (lv_at hl 0 rfl) ?_
    refine va_get (D := (dC, dI)) (ci := 0) (v := .int fo) (C := R_LazyMachine) (T := F_LazyMachine) (N := 13) hx hb hts (fun q hq => List.mem_cons_of_mem _ (i_LazyMachine q hq)) hown hK hP 0 rfl rfl 6 (by decide) (hts _ (List.mem_cons_of_mem _ m_2_13)) (fun _ h9 => h9) rfl d_LazyMachine_count_79 ?_
    refine lm_ri (v := fo) hx hb hr hlocks ((ss, sp, fo, ba, no, en, vs, vf, vg), SM, PM, XM, YM) ?_ hP hK hD hS d_LazyMachine_count_82
    unfold ma_count; rw [if_neg h1_0]; rw [if_neg h1_1]; rw [if_neg h1_2]; rw [if_neg h1_3]; rw [if_pos h1_4]; exact ⟨rfl, rfl⟩
  by_cases h1_5 : x = 5
  · refine lv_tableIn (tgt := 83) hx hb d_LazyMachine_count_1 (by rw [h1_5]; decide) (by rw [h1_5]; decide) (by rw [h1_5]; rfl) rfl ?_
    refine lv_aload_n hx hb d_LazyMachine_count_83 rfl (lv_at hl 0 rfl) ?_
    refine va_get (D := (dC, dI)) (ci := 0) (v := .ref (ad 8)) (C := R_LazyMachine) (T := F_LazyMachine) (N := 13) hx hb hts (fun q hq => List.mem_cons_of_mem _ (i_LazyMachine q hq)) hown hK hP 0 rfl rfl 1 (by decide) (hts _ (List.mem_cons_of_mem _ m_2_8)) (fun _ h9 => h9) rfl d_LazyMachine_count_84 ?_
    refine lm_vi (b := ad 8) (As := []) (rest := []) (wr := (ma_W cA ad (ss, sp, fo, ba, no, en, vs, vf, vg)) ++ (hp_W cA (fun k => ad (k + 1)) SM) ++ (tm_W cA (fun k => ad (k + 12)) XM) ++ (tm_W cA (fun k => ad (k + 19)) YM)) ⟨hx, hb, hml, hown, hts⟩ hK hP hD hS hA [8, 9, 10, 11] [0, 1, 2, 3, 4, 5, 6, 7, 12, 13, 14, 15, 16, 17, 18, 19, 20, 21, 22, 23, 24, 25] rfl rfl (by decide) (by decide) (by decide) (c_Pile_size l dC dI cA (fun k => ad (k + 8)) _ PM  ) (cwV 0 hts (lm_gV m_4_20 m_4_21 m_4_22 m_0_3 m_4_23) rfl rfl rfl (by decide +kernel) ⟨Nat.le_of_ble_eq_true rfl, Nat.le_of_ble_eq_true rfl⟩) (va_recv (q0 := 8) hK hP rfl rfl) lm_bl_no (fun _ _ _ => trivial) hl.1 rfl rfl (Nat.le_of_ble_eq_true rfl) d_LazyMachine_count_87 ⟨Nat.le_of_ble_eq_true rfl, Nat.le_of_ble_eq_true rfl⟩ (fun r87 u87 H locs w87 hP hD hS => ?_)
    obtain ⟨e_r87, w87⟩ := w87
    replace e_r87 := e_r87.symm
    subst e_r87
    replace w87 := w87.symm
    subst w87
    have hP : va_P (dC, dI) classes (lz_W cA ad ((ss, sp, fo, ba, no, en, vs, vf, vg), SM, PM, XM, YM)) H := hP.sub [0, 1, 2, 3, 4, 5, 6, 7, 22, 23, 24, 25, 8, 9, 10, 11, 12, 13, 14, 15, 16, 17, 18, 19, 20, 21] rfl
    have hD : va_D A (lz_W cA ad ((ss, sp, fo, ba, no, en, vs, vf, vg), SM, PM, XM, YM)) := hD.sub [0, 1, 2, 3, 4, 5, 6, 7, 22, 23, 24, 25, 8, 9, 10, 11, 12, 13, 14, 15, 16, 17, 18, 19, 20, 21] (by decide) rfl
    refine lm_ri (v := (p_sz PM)) hx hb hr hlocks ((ss, sp, fo, ba, no, en, vs, vf, vg), SM, PM, XM, YM) ?_ hP hK hD hS d_LazyMachine_count_90
    unfold ma_count; rw [if_neg h1_0]; rw [if_neg h1_1]; rw [if_neg h1_2]; rw [if_neg h1_3]; rw [if_neg h1_4]; rw [if_pos h1_5]; exact ⟨rfl, rfl⟩
  by_cases h1_6 : x = 6
  · refine lv_tableIn (tgt := 91) hx hb d_LazyMachine_count_1 (by rw [h1_6]; decide) (by rw [h1_6]; decide) (by rw [h1_6]; rfl) rfl ?_
    refine lv_aload_n hx hb d_LazyMachine_count_91 rfl (lv_at hl 0 rfl) ?_
    refine lm_vv (b := ad 0) (As := []) (rest := []) (wr := ([] : va_W)) ⟨hx, hb, hml, hown, hts⟩ hK hP hD hS hA [0, 1, 2, 3, 4, 5, 6, 7, 8, 9, 10, 11, 12, 13, 14, 15, 16, 17, 18, 19, 20, 21, 22, 23, 24, 25] [] rfl rfl (by decide) (by decide) (by decide) (c_LazyMachine_markRoots l dC dI cA ad _ ((ss, sp, fo, ba, no, en, vs, vf, vg), SM, PM, XM, YM)  (by exact hi h1_6)) (cwV 0 hts (lm_gV m_5_0 m_5_1 m_19_7 m_0_1 m_5_2) rfl rfl rfl (by decide +kernel) ⟨Nat.le_of_ble_eq_true rfl, Nat.le_of_ble_eq_true rfl⟩) (va_recv (q0 := 0) hK hP rfl rfl) lm_bl_no (fun _ _ _ => trivial) hl.1 rfl rfl (Nat.le_of_ble_eq_true rfl) d_LazyMachine_count_92 ⟨Nat.le_of_ble_eq_true rfl, Nat.le_of_ble_eq_true rfl⟩ (fun u92 H locs w92 hP hD hS => ?_)
    have hP : va_P (dC, dI) classes (lz_W cA ad u92) H := hP
    have hD : va_D A (lz_W cA ad u92) := hD
    refine lv_aload_n hx hb d_LazyMachine_count_95 rfl (lv_at hl 0 rfl) ?_
    refine va_get (D := (dC, dI)) (ci := 0) (v := .ref (ad 1)) (C := R_LazyMachine) (T := F_LazyMachine) (N := 13) hx hb hts (fun q hq => List.mem_cons_of_mem _ (i_LazyMachine q hq)) hown hK hP 0 rfl rfl 0 (by decide) (hts _ (List.mem_cons_of_mem _ m_2_7)) (fun _ h9 => h9) rfl d_LazyMachine_count_96 ?_
    refine lm_vi (b := ad 1) (As := []) (rest := []) (wr := (ma_W cA ad u92.1) ++ (pl_W cA (fun k => ad (k + 8)) u92.2.2.1) ++ (tm_W cA (fun k => ad (k + 12)) u92.2.2.2.1) ++ (tm_W cA (fun k => ad (k + 19)) u92.2.2.2.2)) ⟨hx, hb, hml, hown, hts⟩ hK hP hD hS hA [1, 2, 3, 4, 5, 6, 7] [0, 8, 9, 10, 11, 12, 13, 14, 15, 16, 17, 18, 19, 20, 21, 22, 23, 24, 25] rfl rfl (by decide) (by decide) (by decide) (c_Heap_spreadMarks l dC dI cA (fun k => ad (k + 1)) _ u92.2.1  (by rw [w92]; exact ma_mk_roots (hi h1_6)) (by rw [w92]; exact hp_ok_eq (ma_eq_roots _) (hi h1_6).1)) (cwV 0 hts (lm_gV m_5_18 m_5_19 m_5_20 m_0_2 m_5_21) rfl rfl rfl (by decide +kernel) ⟨Nat.le_of_ble_eq_true rfl, Nat.le_of_ble_eq_true rfl⟩) (va_recv (q0 := 1) hK hP rfl rfl) lm_bl_no (fun _ _ _ => trivial) hl.1 rfl rfl (Nat.le_of_ble_eq_true rfl) d_LazyMachine_count_99 ⟨Nat.le_of_ble_eq_true rfl, Nat.le_of_ble_eq_true rfl⟩ (fun r99 u99 H locs w99 hP hD hS => ?_)
    obtain ⟨e_r99, w99⟩ := w99
    have hP : va_P (dC, dI) classes (lz_W cA ad (u92.1, u99, u92.2.2.1, u92.2.2.2.1, u92.2.2.2.2)) H := hP.sub [0, 19, 20, 21, 22, 23, 24, 25, 1, 2, 3, 4, 5, 6, 7, 8, 9, 10, 11, 12, 13, 14, 15, 16, 17, 18] rfl
    have hD : va_D A (lz_W cA ad (u92.1, u99, u92.2.2.1, u92.2.2.2.1, u92.2.2.2.2)) := hD.sub [0, 19, 20, 21, 22, 23, 24, 25, 1, 2, 3, 4, 5, 6, 7, 8, 9, 10, 11, 12, 13, 14, 15, 16, 17, 18] (by decide) rfl
    refine lm_ri (v := r99) hx hb hr hlocks (u92.1, u99, u92.2.2.1, u92.2.2.2.1, u92.2.2.2.2) ?_ hP hK hD hS d_LazyMachine_count_102
    subst w92 e_r99 w99; unfold ma_count; rw [if_neg h1_0]; rw [if_neg h1_1]; rw [if_neg h1_2]; rw [if_neg h1_3]; rw [if_neg h1_4]; rw [if_neg h1_5]; rw [if_pos h1_6]; exact ⟨rfl, rfl⟩
  by_cases h1_7 : x = 7
  · refine lv_tableIn (tgt := 103) hx hb d_LazyMachine_count_1 (by rw [h1_7]; decide) (by rw [h1_7]; decide) (by rw [h1_7]; rfl) rfl ?_
    refine lv_aload_n hx hb d_LazyMachine_count_103 rfl (lv_at hl 0 rfl) ?_
    refine va_get (D := (dC, dI)) (ci := 0) (v := .int ss) (C := R_LazyMachine) (T := F_LazyMachine) (N := 13) hx hb hts (fun q hq => List.mem_cons_of_mem _ (i_LazyMachine q hq)) hown hK hP 0 rfl rfl 4 (by decide) (hts _ (List.mem_cons_of_mem _ m_2_11)) (fun _ h9 => h9) rfl d_LazyMachine_count_104 ?_
    refine lv_if_eq hx hb d_LazyMachine_count_107 rfl (fun h107 => ?_) (fun h107 => ?_)
    · refine lv_iconst (v := -1) hx hb d_LazyMachine_count_117 (by decide) ?_
      refine lv_goto hx hb d_LazyMachine_count_118 rfl ?_
      refine lm_ri (v := (-1)) hx hb hr hlocks ((ss, sp, fo, ba, no, en, vs, vf, vg), SM, PM, XM, YM) ?_ hP hK hD hS d_LazyMachine_count_125
      unfold ma_count; rw [if_neg h1_0]; rw [if_neg h1_1]; rw [if_neg h1_2]; rw [if_neg h1_3]; rw [if_neg h1_4]; rw [if_neg h1_5]; rw [if_neg h1_6]; rw [if_pos h1_7]; (first | rw [if_pos h107] | rw [if_neg h107]); exact ⟨rfl, rfl⟩
    · refine lv_aload_n hx hb d_LazyMachine_count_110 rfl (lv_at hl 0 rfl) ?_
      refine va_get (D := (dC, dI)) (ci := 0) (v := .int ba) (C := R_LazyMachine) (T := F_LazyMachine) (N := 13) hx hb hts (fun q hq => List.mem_cons_of_mem _ (i_LazyMachine q hq)) hown hK hP 0 rfl rfl 7 (by decide) (hts _ (List.mem_cons_of_mem _ m_2_14)) (fun _ h9 => h9) rfl d_LazyMachine_count_111 ?_
      refine lv_if_eq hx hb d_LazyMachine_count_114 rfl (fun h114 => ?_) (fun h114 => ?_)
      · refine lv_aload_n hx hb d_LazyMachine_count_121 rfl (lv_at hl 0 rfl) ?_
        refine va_get (D := (dC, dI)) (ci := 0) (v := .int no) (C := R_LazyMachine) (T := F_LazyMachine) (N := 13) hx hb hts (fun q hq => List.mem_cons_of_mem _ (i_LazyMachine q hq)) hown hK hP 0 rfl rfl 8 (by decide) (hts _ (List.mem_cons_of_mem _ m_2_15)) (fun _ h9 => h9) rfl d_LazyMachine_count_122 ?_
        refine lm_ri (v := no) hx hb hr hlocks ((ss, sp, fo, ba, no, en, vs, vf, vg), SM, PM, XM, YM) ?_ hP hK hD hS d_LazyMachine_count_125
        unfold ma_count; rw [if_neg h1_0]; rw [if_neg h1_1]; rw [if_neg h1_2]; rw [if_neg h1_3]; rw [if_neg h1_4]; rw [if_neg h1_5]; rw [if_neg h1_6]; rw [if_pos h1_7]; (first | rw [if_pos h107] | rw [if_neg h107]); (first | rw [if_pos h114] | rw [if_neg h114]); exact ⟨rfl, rfl⟩
      · refine lv_iconst (v := -1) hx hb d_LazyMachine_count_117 (by decide) ?_
        refine lv_goto hx hb d_LazyMachine_count_118 rfl ?_
        refine lm_ri (v := (-1)) hx hb hr hlocks ((ss, sp, fo, ba, no, en, vs, vf, vg), SM, PM, XM, YM) ?_ hP hK hD hS d_LazyMachine_count_125
        unfold ma_count; rw [if_neg h1_0]; rw [if_neg h1_1]; rw [if_neg h1_2]; rw [if_neg h1_3]; rw [if_neg h1_4]; rw [if_neg h1_5]; rw [if_neg h1_6]; rw [if_pos h1_7]; (first | rw [if_pos h107] | rw [if_neg h107]); (first | rw [if_pos h114] | rw [if_neg h114]); exact ⟨rfl, rfl⟩
  by_cases h1_8 : x = 8
  · refine lv_tableIn (tgt := 126) hx hb d_LazyMachine_count_1 (by rw [h1_8]; decide) (by rw [h1_8]; decide) (by rw [h1_8]; rfl) rfl ?_
    refine lv_aload_n hx hb d_LazyMachine_count_126 rfl (lv_at hl 0 rfl) ?_
    refine va_get (D := (dC, dI)) (ci := 0) (v := .ref (ad 8)) (C := R_LazyMachine) (T := F_LazyMachine) (N := 13) hx hb hts (fun q hq => List.mem_cons_of_mem _ (i_LazyMachine q hq)) hown hK hP 0 rfl rfl 1 (by decide) (hts _ (List.mem_cons_of_mem _ m_2_8)) (fun _ h9 => h9) rfl d_LazyMachine_count_127 ?_
    refine lm_vi (b := ad 8) (As := []) (rest := []) (wr := (ma_W cA ad (ss, sp, fo, ba, no, en, vs, vf, vg)) ++ (hp_W cA (fun k => ad (k + 1)) SM) ++ (tm_W cA (fun k => ad (k + 12)) XM) ++ (tm_W cA (fun k => ad (k + 19)) YM)) ⟨hx, hb, hml, hown, hts⟩ hK hP hD hS hA [8, 9, 10, 11] [0, 1, 2, 3, 4, 5, 6, 7, 12, 13, 14, 15, 16, 17, 18, 19, 20, 21, 22, 23, 24, 25] rfl rfl (by decide) (by decide) (by decide) (c_Pile_most l dC dI cA (fun k => ad (k + 8)) _ PM  ) (cwV 0 hts (lm_gV m_5_23 m_6_0 m_6_1 m_0_3 m_6_2) rfl rfl rfl (by decide +kernel) ⟨Nat.le_of_ble_eq_true rfl, Nat.le_of_ble_eq_true rfl⟩) (va_recv (q0 := 8) hK hP rfl rfl) lm_bl_no (fun _ _ _ => trivial) hl.1 rfl rfl (Nat.le_of_ble_eq_true rfl) d_LazyMachine_count_130 ⟨Nat.le_of_ble_eq_true rfl, Nat.le_of_ble_eq_true rfl⟩ (fun r130 u130 H locs w130 hP hD hS => ?_)
    obtain ⟨e_r130, w130⟩ := w130
    replace e_r130 := e_r130.symm
    subst e_r130
    replace w130 := w130.symm
    subst w130
    have hP : va_P (dC, dI) classes (lz_W cA ad ((ss, sp, fo, ba, no, en, vs, vf, vg), SM, PM, XM, YM)) H := hP.sub [0, 1, 2, 3, 4, 5, 6, 7, 22, 23, 24, 25, 8, 9, 10, 11, 12, 13, 14, 15, 16, 17, 18, 19, 20, 21] rfl
    have hD : va_D A (lz_W cA ad ((ss, sp, fo, ba, no, en, vs, vf, vg), SM, PM, XM, YM)) := hD.sub [0, 1, 2, 3, 4, 5, 6, 7, 22, 23, 24, 25, 8, 9, 10, 11, 12, 13, 14, 15, 16, 17, 18, 19, 20, 21] (by decide) rfl
    refine lm_ri (v := (p_mo PM)) hx hb hr hlocks ((ss, sp, fo, ba, no, en, vs, vf, vg), SM, PM, XM, YM) ?_ hP hK hD hS d_LazyMachine_count_133
    unfold ma_count; rw [if_neg h1_0]; rw [if_neg h1_1]; rw [if_neg h1_2]; rw [if_neg h1_3]; rw [if_neg h1_4]; rw [if_neg h1_5]; rw [if_neg h1_6]; rw [if_neg h1_7]; rw [if_pos h1_8]; exact ⟨rfl, rfl⟩
  have qh1_0 := lv_neT (a := 0) h1_0 (by decide)
  have qh1_1 := lv_neT (a := 1) h1_1 (by decide)
  have qh1_2 := lv_neT (a := 2) h1_2 (by decide)
  have qh1_3 := lv_neT (a := 3) h1_3 (by decide)
  have qh1_4 := lv_neT (a := 4) h1_4 (by decide)
  have qh1_5 := lv_neT (a := 5) h1_5 (by decide)
  have qh1_6 := lv_neT (a := 6) h1_6 (by decide)
  have qh1_7 := lv_neT (a := 7) h1_7 (by decide)
  have qh1_8 := lv_neT (a := 8) h1_8 (by decide)
  refine lv_tableOut (tgt := 134) hx hb d_LazyMachine_count_1 (by omega) rfl ?_
  refine lv_iconst (v := -1) hx hb d_LazyMachine_count_134 (by decide) ?_
  refine lm_ri (v := (-1)) hx hb hr hlocks ((ss, sp, fo, ba, no, en, vs, vf, vg), SM, PM, XM, YM) ?_ hP hK hD hS d_LazyMachine_count_135
  unfold ma_count; rw [if_neg h1_0]; rw [if_neg h1_1]; rw [if_neg h1_2]; rw [if_neg h1_3]; rw [if_neg h1_4]; rw [if_neg h1_5]; rw [if_neg h1_6]; rw [if_neg h1_7]; rw [if_neg h1_8]; exact ⟨rfl, rfl⟩
end
