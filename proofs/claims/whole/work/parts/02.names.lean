/-! Names: classes, methods, their code; the words of the tables that our contracts take. Printed by a program of ours. -/
abbrev R_LazyMachine : String := "LazyMachine"
abbrev R_Heap : String := "LazyMachine$Heap"
abbrev R_Pile : String := "LazyMachine$Pile"
abbrev R_Term : String := "LazyMachine$Term"
abbrev R_Model : String := "LazyMachineModel"
abbrev R_Law : String := "LazyMachineLaw"
abbrev b_LazyMachine_init : ByteArray := prog_1_method_1_code
abbrev y_LazyMachine_init : MethodName := ⟨R_LazyMachine, "<init>", "()V"⟩
abbrev b_Heap_init : ByteArray := prog_2_method_1_code
abbrev y_Heap_init : MethodName := ⟨R_Heap, "<init>", "()V"⟩
abbrev b_Pile_init : ByteArray := prog_3_method_1_code
abbrev y_Pile_init : MethodName := ⟨R_Pile, "<init>", "()V"⟩
abbrev b_Term_init : ByteArray := prog_4_method_1_code
abbrev y_Term_init : MethodName := ⟨R_Term, "<init>", "()V"⟩
abbrev b_LazyMachine_load : ByteArray := prog_1_method_3_code
abbrev y_LazyMachine_load : MethodName := ⟨R_LazyMachine, "load", "()I"⟩
abbrev b_Term_settle : ByteArray := prog_4_method_8_code
abbrev y_Term_settle : MethodName := ⟨R_Term, "settle", "()I"⟩
abbrev b_Term_givePart : ByteArray := prog_4_method_9_code
abbrev y_Term_givePart : MethodName := ⟨R_Term, "givePart", "(II)Z"⟩
abbrev b_Term_bindsIn : ByteArray := prog_4_method_10_code
abbrev y_Term_bindsIn : MethodName := ⟨R_Term, "bindsIn", "(II)Z"⟩
abbrev b_Term_clear : ByteArray := prog_4_method_6_code
abbrev y_Term_clear : MethodName := ⟨R_Term, "clear", "()V"⟩
abbrev b_LazyMachine_begin : ByteArray := prog_1_method_11_code
abbrev y_LazyMachine_begin : MethodName := ⟨R_LazyMachine, "begin", "(I)V"⟩
abbrev b_Heap_empty : ByteArray := prog_2_method_2_code
abbrev y_Heap_empty : MethodName := ⟨R_Heap, "empty", "()V"⟩
abbrev b_Heap_beginMarks : ByteArray := prog_2_method_10_code
abbrev y_Heap_beginMarks : MethodName := ⟨R_Heap, "beginMarks", "()V"⟩
abbrev b_Heap_freeUnreached : ByteArray := prog_2_method_14_code
abbrev y_Heap_freeUnreached : MethodName := ⟨R_Heap, "freeUnreached", "()V"⟩
abbrev b_Pile_empty : ByteArray := prog_3_method_2_code
abbrev y_Pile_empty : MethodName := ⟨R_Pile, "empty", "()V"⟩
abbrev b_LazyMachine_enter : ByteArray := prog_1_method_12_code
abbrev y_LazyMachine_enter : MethodName := ⟨R_LazyMachine, "enter", "(II)V"⟩
abbrev b_LazyMachine_count : ByteArray := prog_1_method_9_code
abbrev y_LazyMachine_count : MethodName := ⟨R_LazyMachine, "count", "(I)I"⟩
abbrev b_Term_size : ByteArray := prog_4_method_2_code
abbrev y_Term_size : MethodName := ⟨R_Term, "size", "()I"⟩
abbrev b_Pile_size : ByteArray := prog_3_method_3_code
abbrev y_Pile_size : MethodName := ⟨R_Pile, "size", "()I"⟩
abbrev b_LazyMachine_markRoots : ByteArray := prog_1_method_32_code
abbrev y_LazyMachine_markRoots : MethodName := ⟨R_LazyMachine, "markRoots", "()V"⟩
abbrev b_Heap_reachFrom : ByteArray := prog_2_method_12_code
abbrev y_Heap_reachFrom : MethodName := ⟨R_Heap, "reachFrom", "(III)V"⟩
abbrev b_Heap_reach : ByteArray := prog_2_method_11_code
abbrev y_Heap_reach : MethodName := ⟨R_Heap, "reach", "(I)V"⟩
abbrev b_Pile_reachAll : ByteArray := prog_3_method_11_code
abbrev y_Pile_reachAll : MethodName := ⟨R_Pile, "reachAll", "(LLazyMachine$Heap;)V"⟩
abbrev b_Heap_spreadMarks : ByteArray := prog_2_method_13_code
abbrev y_Heap_spreadMarks : MethodName := ⟨R_Heap, "spreadMarks", "()I"⟩
abbrev b_Pile_most : ByteArray := prog_3_method_4_code
abbrev y_Pile_most : MethodName := ⟨R_Pile, "most", "()I"⟩
abbrev b_Law_put : ByteArray := method_3_code
abbrev y_Law_put : MethodName := ⟨R_Law, "put", "(LLazyMachine;II[J)I"⟩
abbrev b_LazyMachine_put : ByteArray := prog_1_method_2_code
abbrev y_LazyMachine_put : MethodName := ⟨R_LazyMachine, "put", "(II)I"⟩
abbrev b_LazyMachine_mayBear : ByteArray := prog_1_method_10_code
abbrev y_LazyMachine_mayBear : MethodName := ⟨R_LazyMachine, "mayBear", "(II)Z"⟩
abbrev b_Term_add : ByteArray := prog_4_method_7_code
abbrev y_Term_add : MethodName := ⟨R_Term, "add", "(II)Z"⟩
abbrev b_Law_restart : ByteArray := method_4_code
abbrev y_Law_restart : MethodName := ⟨R_Law, "restart", "(LLazyMachine;)I"⟩
abbrev b_LazyMachine_restart : ByteArray := prog_1_method_4_code
abbrev y_LazyMachine_restart : MethodName := ⟨R_LazyMachine, "restart", "()V"⟩
abbrev b_Law_run : ByteArray := method_5_code
abbrev y_Law_run : MethodName := ⟨R_Law, "run", "(LLazyMachine;I[J)I"⟩
abbrev b_LazyMachine_run : ByteArray := prog_1_method_5_code
abbrev y_LazyMachine_run : MethodName := ⟨R_LazyMachine, "run", "(I)I"⟩
abbrev b_LazyMachine_stepBack : ByteArray := prog_1_method_20_code
abbrev y_LazyMachine_stepBack : MethodName := ⟨R_LazyMachine, "stepBack", "()I"⟩
abbrev b_Pile_topFirst : ByteArray := prog_3_method_9_code
abbrev y_Pile_topFirst : MethodName := ⟨R_Pile, "topFirst", "()I"⟩
abbrev b_Pile_topSort : ByteArray := prog_3_method_8_code
abbrev y_Pile_topSort : MethodName := ⟨R_Pile, "topSort", "()I"⟩
abbrev b_Pile_drop : ByteArray := prog_3_method_7_code
abbrev y_Pile_drop : MethodName := ⟨R_Pile, "drop", "()V"⟩
abbrev b_Heap_become : ByteArray := prog_2_method_8_code
abbrev y_Heap_become : MethodName := ⟨R_Heap, "become", "(IIII)V"⟩
abbrev b_LazyMachine_stepArgument : ByteArray := prog_1_method_21_code
abbrev y_LazyMachine_stepArgument : MethodName := ⟨R_LazyMachine, "stepArgument", "(I)I"⟩
abbrev b_LazyMachine_hasRoomFor : ByteArray := prog_1_method_31_code
abbrev y_LazyMachine_hasRoomFor : MethodName := ⟨R_LazyMachine, "hasRoomFor", "(I)Z"⟩
abbrev b_Heap_free : ByteArray := prog_2_method_3_code
abbrev y_Heap_free : MethodName := ⟨R_Heap, "free", "()I"⟩
abbrev b_LazyMachine_enterFunction : ByteArray := prog_1_method_22_code
abbrev y_LazyMachine_enterFunction : MethodName := ⟨R_LazyMachine, "enterFunction", "(I)V"⟩
abbrev b_Term_part : ByteArray := prog_4_method_5_code
abbrev y_Term_part : MethodName := ⟨R_Term, "part", "(II)I"⟩
abbrev b_Heap_take : ByteArray := prog_2_method_7_code
abbrev y_Heap_take : MethodName := ⟨R_Heap, "take", "(III)I"⟩
abbrev b_Pile_topSecond : ByteArray := prog_3_method_10_code
abbrev y_Pile_topSecond : MethodName := ⟨R_Pile, "topSecond", "()I"⟩
abbrev b_LazyMachine_stepLeft : ByteArray := prog_1_method_23_code
abbrev y_LazyMachine_stepLeft : MethodName := ⟨R_LazyMachine, "stepLeft", "(II)I"⟩
abbrev b_Pile_add : ByteArray := prog_3_method_6_code
abbrev y_Pile_add : MethodName := ⟨R_Pile, "add", "(III)V"⟩
abbrev b_Pile_isFull : ByteArray := prog_3_method_5_code
abbrev y_Pile_isFull : MethodName := ⟨R_Pile, "isFull", "()Z"⟩
abbrev b_LazyMachine_stepRight : ByteArray := prog_1_method_24_code
abbrev y_LazyMachine_stepRight : MethodName := ⟨R_LazyMachine, "stepRight", "(II)I"⟩
abbrev b_Term_sort : ByteArray := prog_4_method_3_code
abbrev y_Term_sort : MethodName := ⟨R_Term, "sort", "(I)I"⟩
abbrev b_LazyMachine_reckon : ByteArray := prog_1_method_25_code
abbrev y_LazyMachine_reckon : MethodName := ⟨R_LazyMachine, "reckon", "(III)I"⟩
abbrev b_LazyMachine_backWith : ByteArray := prog_1_method_13_code
abbrev y_LazyMachine_backWith : MethodName := ⟨R_LazyMachine, "backWith", "(III)I"⟩
abbrev b_LazyMachine_stepTest : ByteArray := prog_1_method_26_code
abbrev y_LazyMachine_stepTest : MethodName := ⟨R_LazyMachine, "stepTest", "(II)I"⟩
abbrev b_LazyMachine_stepPart : ByteArray := prog_1_method_27_code
abbrev y_LazyMachine_stepPart : MethodName := ⟨R_LazyMachine, "stepPart", "(I)I"⟩
abbrev b_Heap_state : ByteArray := prog_2_method_4_code
abbrev y_Heap_state : MethodName := ⟨R_Heap, "state", "(I)I"⟩
abbrev b_LazyMachine_ask : ByteArray := prog_1_method_28_code
abbrev y_LazyMachine_ask : MethodName := ⟨R_LazyMachine, "ask", "(I)I"⟩
abbrev b_Heap_first : ByteArray := prog_2_method_5_code
abbrev y_Heap_first : MethodName := ⟨R_Heap, "first", "(I)I"⟩
abbrev b_Heap_second : ByteArray := prog_2_method_6_code
abbrev y_Heap_second : MethodName := ⟨R_Heap, "second", "(I)I"⟩
abbrev b_LazyMachine_stepAt : ByteArray := prog_1_method_14_code
abbrev y_LazyMachine_stepAt : MethodName := ⟨R_LazyMachine, "stepAt", "()I"⟩
abbrev b_Term_x : ByteArray := prog_4_method_4_code
abbrev y_Term_x : MethodName := ⟨R_Term, "x", "(I)I"⟩
abbrev b_Heap_boundTo : ByteArray := prog_2_method_9_code
abbrev y_Heap_boundTo : MethodName := ⟨R_Heap, "boundTo", "(II)I"⟩
abbrev b_LazyMachine_stepApply : ByteArray := prog_1_method_16_code
abbrev y_LazyMachine_stepApply : MethodName := ⟨R_LazyMachine, "stepApply", "()I"⟩
abbrev b_LazyMachine_cellsFor : ByteArray := prog_1_method_29_code
abbrev y_LazyMachine_cellsFor : MethodName := ⟨R_LazyMachine, "cellsFor", "(I)I"⟩
abbrev b_LazyMachine_thunkFor : ByteArray := prog_1_method_30_code
abbrev y_LazyMachine_thunkFor : MethodName := ⟨R_LazyMachine, "thunkFor", "(I)I"⟩
abbrev b_LazyMachine_stepUnder : ByteArray := prog_1_method_15_code
abbrev y_LazyMachine_stepUnder : MethodName := ⟨R_LazyMachine, "stepUnder", "(III)I"⟩
abbrev b_LazyMachine_stepFix : ByteArray := prog_1_method_17_code
abbrev y_LazyMachine_stepFix : MethodName := ⟨R_LazyMachine, "stepFix", "()I"⟩
abbrev b_LazyMachine_stepLet : ByteArray := prog_1_method_18_code
abbrev y_LazyMachine_stepLet : MethodName := ⟨R_LazyMachine, "stepLet", "()I"⟩
abbrev b_LazyMachine_stepPair : ByteArray := prog_1_method_19_code
abbrev y_LazyMachine_stepPair : MethodName := ⟨R_LazyMachine, "stepPair", "()I"⟩
abbrev b_Law_result : ByteArray := method_6_code
abbrev y_Law_result : MethodName := ⟨R_Law, "result", "(LLazyMachine;I[J)I"⟩
abbrev b_LazyMachine_result : ByteArray := prog_1_method_6_code
abbrev y_LazyMachine_result : MethodName := ⟨R_LazyMachine, "result", "(I)I"⟩
abbrev b_Law_into : ByteArray := method_7_code
abbrev y_Law_into : MethodName := ⟨R_Law, "into", "(LLazyMachine;I[J)I"⟩
abbrev b_LazyMachine_into : ByteArray := prog_1_method_7_code
abbrev y_LazyMachine_into : MethodName := ⟨R_LazyMachine, "into", "(I)I"⟩
abbrev b_Law_apply : ByteArray := method_8_code
abbrev y_Law_apply : MethodName := ⟨R_Law, "apply", "(LLazyMachine;I[J)I"⟩
abbrev b_LazyMachine_apply : ByteArray := prog_1_method_8_code
abbrev y_LazyMachine_apply : MethodName := ⟨R_LazyMachine, "apply", "(I)I"⟩
abbrev b_Model_init : ByteArray := prog_6_method_1_code
abbrev y_Model_init : MethodName := ⟨R_Model, "<init>", "()V"⟩
abbrev b_Model_thrown : ByteArray := prog_6_method_2_code
abbrev y_Model_thrown : MethodName := ⟨R_Model, "thrown", "()I"⟩
abbrev b_Model_put : ByteArray := prog_6_method_4_code
abbrev y_Model_put : MethodName := ⟨R_Model, "put", "(II)I"⟩
abbrev b_Model_fails : ByteArray := prog_6_method_3_code
abbrev y_Model_fails : MethodName := ⟨R_Model, "fails", "(ZZ)Z"⟩
abbrev b_Model_load : ByteArray := prog_6_method_6_code
abbrev y_Model_load : MethodName := ⟨R_Model, "load", "()I"⟩
abbrev b_Model_many : ByteArray := prog_6_method_5_code
abbrev y_Model_many : MethodName := ⟨R_Model, "many", "(I)I"⟩
abbrev b_Model_begin : ByteArray := prog_6_method_7_code
abbrev y_Model_begin : MethodName := ⟨R_Model, "begin", "()V"⟩
abbrev b_Model_restart : ByteArray := prog_6_method_8_code
abbrev y_Model_restart : MethodName := ⟨R_Model, "restart", "()V"⟩
abbrev b_Model_run : ByteArray := prog_6_method_27_code
abbrev y_Model_run : MethodName := ⟨R_Model, "run", "(I)I"⟩
abbrev b_Model_returns : ByteArray := prog_6_method_25_code
abbrev y_Model_returns : MethodName := ⟨R_Model, "returns", "()Z"⟩
abbrev b_Model_stops : ByteArray := prog_6_method_16_code
abbrev y_Model_stops : MethodName := ⟨R_Model, "stops", "(I)Z"⟩
abbrev b_Model_isFull : ByteArray := prog_6_method_18_code
abbrev y_Model_isFull : MethodName := ⟨R_Model, "isFull", "(I)Z"⟩
abbrev b_Model_mark : ByteArray := prog_6_method_11_code
abbrev y_Model_mark : MethodName := ⟨R_Model, "mark", "()I"⟩
abbrev b_Model_meetValue : ByteArray := prog_6_method_10_code
abbrev y_Model_meetValue : MethodName := ⟨R_Model, "meetValue", "(III)V"⟩
abbrev b_Model_meet : ByteArray := prog_6_method_9_code
abbrev y_Model_meet : MethodName := ⟨R_Model, "meet", "(I)V"⟩
abbrev b_Model_cell : ByteArray := prog_6_method_12_code
abbrev y_Model_cell : MethodName := ⟨R_Model, "cell", "(III)I"⟩
abbrev b_Model_go : ByteArray := prog_6_method_21_code
abbrev y_Model_go : MethodName := ⟨R_Model, "go", "(II)V"⟩
abbrev b_Model_push : ByteArray := prog_6_method_19_code
abbrev y_Model_push : MethodName := ⟨R_Model, "push", "(III)V"⟩
abbrev b_Model_reckoned : ByteArray := prog_6_method_24_code
abbrev y_Model_reckoned : MethodName := ⟨R_Model, "reckoned", "(III)I"⟩
abbrev b_Model_give : ByteArray := prog_6_method_20_code
abbrev y_Model_give : MethodName := ⟨R_Model, "give", "(III)V"⟩
abbrev b_Model_part : ByteArray := prog_6_method_26_code
abbrev y_Model_part : MethodName := ⟨R_Model, "part", "(I)Z"⟩
abbrev b_Model_asks : ByteArray := prog_6_method_22_code
abbrev y_Model_asks : MethodName := ⟨R_Model, "asks", "(IZ)Z"⟩
abbrev b_Model_isHigh : ByteArray := prog_6_method_17_code
abbrev y_Model_isHigh : MethodName := ⟨R_Model, "isHigh", "()Z"⟩
abbrev b_Model_at : ByteArray := prog_6_method_23_code
abbrev y_Model_at : MethodName := ⟨R_Model, "at", "()Z"⟩
abbrev b_Model_bound : ByteArray := prog_6_method_15_code
abbrev y_Model_bound : MethodName := ⟨R_Model, "bound", "(I)I"⟩
abbrev b_Model_costs : ByteArray := prog_6_method_13_code
abbrev y_Model_costs : MethodName := ⟨R_Model, "costs", "(I)I"⟩
abbrev b_Model_thunk : ByteArray := prog_6_method_14_code
abbrev y_Model_thunk : MethodName := ⟨R_Model, "thunk", "(I)I"⟩
abbrev b_Model_result : ByteArray := prog_6_method_28_code
abbrev y_Model_result : MethodName := ⟨R_Model, "result", "(I)I"⟩
abbrev b_Model_into : ByteArray := prog_6_method_29_code
abbrev y_Model_into : MethodName := ⟨R_Model, "into", "(I)I"⟩
abbrev b_Model_apply : ByteArray := prog_6_method_30_code
abbrev y_Model_apply : MethodName := ⟨R_Model, "apply", "(I)I"⟩
abbrev b_Model_count : ByteArray := prog_6_method_31_code
abbrev y_Model_count : MethodName := ⟨R_Model, "count", "(I)I"⟩
def F_LazyMachine : u_T := fun k => match k with
  | 0 => ("LazyMachine", "heap", "LLazyMachine$Heap;", true)
  | 1 => ("LazyMachine", "pile", "LLazyMachine$Pile;", true)
  | 2 => ("LazyMachine", "waiting", "LLazyMachine$Term;", false)
  | 3 => ("LazyMachine", "term", "LLazyMachine$Term;", false)
  | 4 => ("LazyMachine", "status", "I", false)
  | 5 => ("LazyMachine", "steps", "I", false)
  | 6 => ("LazyMachine", "forced", "I", false)
  | 7 => ("LazyMachine", "back", "Z", false)
  | 8 => ("LazyMachine", "node", "I", false)
  | 9 => ("LazyMachine", "environment", "I", false)
  | 10 => ("LazyMachine", "valueSort", "I", false)
  | 11 => ("LazyMachine", "valueFirst", "I", false)
  | _ => ("LazyMachine", "valueSecond", "I", false)
def t_LazyMachine : Nat → FieldType := fun k => match k with
  | 0 => .object "LazyMachine$Heap"
  | 1 => .object "LazyMachine$Pile"
  | 2 => .object "LazyMachine$Term"
  | 3 => .object "LazyMachine$Term"
  | 4 => .int
  | 5 => .int
  | 6 => .int
  | 7 => .boolean
  | 8 => .int
  | 9 => .int
  | 10 => .int
  | 11 => .int
  | _ => .int
theorem n_LazyMachine : ∀ a, a < 13 → ∀ b, b < 13 → a ≠ b → (F_LazyMachine a).2.1 ≠ (F_LazyMachine b).2.1 := by decide +kernel
theorem t_LazyMachine_ok : ∀ k, k < 13 → parseFieldDescriptor (F_LazyMachine k).2.2.1 = some (t_LazyMachine k) := by decide +kernel
def F_Heap : u_T := fun k => match k with
  | 0 => ("LazyMachine$Heap", "states", "[I", true)
  | 1 => ("LazyMachine$Heap", "firsts", "[I", true)
  | 2 => ("LazyMachine$Heap", "seconds", "[I", true)
  | 3 => ("LazyMachine$Heap", "freeCells", "[I", true)
  | 4 => ("LazyMachine$Heap", "marks", "[I", true)
  | 5 => ("LazyMachine$Heap", "reached", "[I", true)
  | 6 => ("LazyMachine$Heap", "free", "I", false)
  | 7 => ("LazyMachine$Heap", "round", "I", false)
  | _ => ("LazyMachine$Heap", "reachedCount", "I", false)
def t_Heap : Nat → FieldType := fun k => match k with
  | 0 => .array .int
  | 1 => .array .int
  | 2 => .array .int
  | 3 => .array .int
  | 4 => .array .int
  | 5 => .array .int
  | 6 => .int
  | 7 => .int
  | _ => .int
theorem n_Heap : ∀ a, a < 9 → ∀ b, b < 9 → a ≠ b → (F_Heap a).2.1 ≠ (F_Heap b).2.1 := by decide +kernel
theorem t_Heap_ok : ∀ k, k < 9 → parseFieldDescriptor (F_Heap k).2.2.1 = some (t_Heap k) := by decide +kernel
def F_Pile : u_T := fun k => match k with
  | 0 => ("LazyMachine$Pile", "sorts", "[I", true)
  | 1 => ("LazyMachine$Pile", "firsts", "[I", true)
  | 2 => ("LazyMachine$Pile", "seconds", "[I", true)
  | 3 => ("LazyMachine$Pile", "size", "I", false)
  | _ => ("LazyMachine$Pile", "most", "I", false)
def t_Pile : Nat → FieldType := fun k => match k with
  | 0 => .array .int
  | 1 => .array .int
  | 2 => .array .int
  | 3 => .int
  | _ => .int
theorem n_Pile : ∀ a, a < 5 → ∀ b, b < 5 → a ≠ b → (F_Pile a).2.1 ≠ (F_Pile b).2.1 := by decide +kernel
theorem t_Pile_ok : ∀ k, k < 5 → parseFieldDescriptor (F_Pile k).2.2.1 = some (t_Pile k) := by decide +kernel
def F_Term : u_T := fun k => match k with
  | 0 => ("LazyMachine$Term", "sorts", "[I", true)
  | 1 => ("LazyMachine$Term", "xs", "[I", true)
  | 2 => ("LazyMachine$Term", "parts", "[I", true)
  | 3 => ("LazyMachine$Term", "partsCome", "[I", true)
  | 4 => ("LazyMachine$Term", "binders", "[I", true)
  | 5 => ("LazyMachine$Term", "open", "[I", true)
  | _ => ("LazyMachine$Term", "size", "I", false)
def t_Term : Nat → FieldType := fun k => match k with
  | 0 => .array .int
  | 1 => .array .int
  | 2 => .array .int
  | 3 => .array .int
  | 4 => .array .int
  | 5 => .array .int
  | _ => .int
theorem n_Term : ∀ a, a < 7 → ∀ b, b < 7 → a ≠ b → (F_Term a).2.1 ≠ (F_Term b).2.1 := by decide +kernel
theorem t_Term_ok : ∀ k, k < 7 → parseFieldDescriptor (F_Term k).2.2.1 = some (t_Term k) := by decide +kernel
def F_Model : u_T := fun k => match k with
  | 0 => ("LazyMachineModel", "thrown", "I", false)
  | 1 => ("LazyMachineModel", "sorts", "[I", true)
  | 2 => ("LazyMachineModel", "xs", "[I", true)
  | 3 => ("LazyMachineModel", "told", "I", false)
  | 4 => ("LazyMachineModel", "sort", "[I", true)
  | 5 => ("LazyMachineModel", "number", "[I", true)
  | 6 => ("LazyMachineModel", "child", "[I", true)
  | 7 => ("LazyMachineModel", "size", "I", false)
  | 8 => ("LazyMachineModel", "owner", "[I", true)
  | 9 => ("LazyMachineModel", "around", "[I", true)
  | 10 => ("LazyMachineModel", "is", "[I", true)
  | 11 => ("LazyMachineModel", "one", "[I", true)
  | 12 => ("LazyMachineModel", "two", "[I", true)
  | 13 => ("LazyMachineModel", "reached", "[Z", true)
  | 14 => ("LazyMachineModel", "todo", "[I", true)
  | 15 => ("LazyMachineModel", "left", "I", false)
  | 16 => ("LazyMachineModel", "what", "[I", true)
  | 17 => ("LazyMachineModel", "first", "[I", true)
  | 18 => ("LazyMachineModel", "second", "[I", true)
  | 19 => ("LazyMachineModel", "frames", "I", false)
  | 20 => ("LazyMachineModel", "most", "I", false)
  | 21 => ("LazyMachineModel", "status", "I", false)
  | 22 => ("LazyMachineModel", "steps", "I", false)
  | 23 => ("LazyMachineModel", "forced", "I", false)
  | 24 => ("LazyMachineModel", "back", "Z", false)
  | 25 => ("LazyMachineModel", "node", "I", false)
  | 26 => ("LazyMachineModel", "environment", "I", false)
  | 27 => ("LazyMachineModel", "valueSort", "I", false)
  | 28 => ("LazyMachineModel", "valueOne", "I", false)
  | _ => ("LazyMachineModel", "valueTwo", "I", false)
def t_Model : Nat → FieldType := fun k => match k with
  | 0 => .int
  | 1 => .array .int
  | 2 => .array .int
  | 3 => .int
  | 4 => .array .int
  | 5 => .array .int
  | 6 => .array .int
  | 7 => .int
  | 8 => .array .int
  | 9 => .array .int
  | 10 => .array .int
  | 11 => .array .int
  | 12 => .array .int
  | 13 => .array .boolean
  | 14 => .array .int
  | 15 => .int
  | 16 => .array .int
  | 17 => .array .int
  | 18 => .array .int
  | 19 => .int
  | 20 => .int
  | 21 => .int
  | 22 => .int
  | 23 => .int
  | 24 => .boolean
  | 25 => .int
  | 26 => .int
  | 27 => .int
  | 28 => .int
  | _ => .int
theorem n_Model : ∀ a, a < 30 → ∀ b, b < 30 → a ≠ b → (F_Model a).2.1 ≠ (F_Model b).2.1 := by decide +kernel
theorem t_Model_ok : ∀ k, k < 30 → parseFieldDescriptor (F_Model k).2.2.1 = some (t_Model k) := by decide +kernel
abbrev classes : List vw_C := [(R_LazyMachine, F_LazyMachine, 13), (R_Heap, F_Heap, 9), (R_Pile, F_Pile, 5), (R_Term, F_Term, 7), (R_Model, F_Model, 30)]
def wd_0 : List Cond := [Cond.initialized R_Law, Cond.initialized R_LazyMachine, Cond.initialized R_Heap, Cond.initialized R_Pile, Cond.initialized R_Term, Cond.initialized R_Model, Cond.initialized "java/lang/Math", Cond.classLink R_Law 8 R_LazyMachine, Cond.instantiable R_LazyMachine 13, Cond.methodLink R_Law 33 y_LazyMachine_init, Cond.instanceMethod y_LazyMachine_init, Cond.code y_LazyMachine_init b_LazyMachine_init 1 none, Cond.methodLink R_LazyMachine 1 objectInit, Cond.instanceMethod objectInit, Cond.code objectInit ⟨#[0xb1]⟩ 1 none, Cond.classLink R_LazyMachine 7 R_Heap, Cond.instantiable R_Heap 9, Cond.methodLink R_LazyMachine 9 y_Heap_init, Cond.instanceMethod y_Heap_init, Cond.code y_Heap_init b_Heap_init 1 none, Cond.methodLink R_Heap 3 objectInit, Cond.fieldLink R_Heap 9 "LazyMachine$Heap" "states" "[I", Cond.fieldLink R_Heap 15 "LazyMachine$Heap" "firsts" "[I", Cond.fieldLink R_Heap 18 "LazyMachine$Heap" "seconds" "[I"]
def wd_1 : List Cond := [Cond.fieldLink R_Heap 21 "LazyMachine$Heap" "freeCells" "[I", Cond.fieldLink R_Heap 24 "LazyMachine$Heap" "marks" "[I", Cond.fieldLink R_Heap 27 "LazyMachine$Heap" "reached" "[I", Cond.fieldLink R_Heap 36 "LazyMachine$Heap" "free" "I", Cond.fieldLink R_Heap 48 "LazyMachine$Heap" "round" "I", Cond.fieldLink R_Heap 51 "LazyMachine$Heap" "reachedCount" "I", Cond.arrayClass .int, Cond.classLink R_LazyMachine 16 R_Pile, Cond.instantiable R_Pile 5, Cond.methodLink R_LazyMachine 18 y_Pile_init, Cond.instanceMethod y_Pile_init, Cond.code y_Pile_init b_Pile_init 1 none, Cond.methodLink R_Pile 3 objectInit, Cond.fieldLink R_Pile 9 "LazyMachine$Pile" "sorts" "[I", Cond.fieldLink R_Pile 15 "LazyMachine$Pile" "firsts" "[I", Cond.fieldLink R_Pile 18 "LazyMachine$Pile" "seconds" "[I", Cond.fieldLink R_Pile 21 "LazyMachine$Pile" "size" "I", Cond.fieldLink R_Pile 25 "LazyMachine$Pile" "most" "I", Cond.classLink R_LazyMachine 23 R_Term, Cond.instantiable R_Term 7, Cond.methodLink R_LazyMachine 25 y_Term_init, Cond.instanceMethod y_Term_init, Cond.code y_Term_init b_Term_init 1 none, Cond.methodLink R_Term 3 objectInit]
def wd_2 : List Cond := [Cond.fieldLink R_Term 9 "LazyMachine$Term" "sorts" "[I", Cond.fieldLink R_Term 15 "LazyMachine$Term" "xs" "[I", Cond.fieldLink R_Term 18 "LazyMachine$Term" "parts" "[I", Cond.fieldLink R_Term 21 "LazyMachine$Term" "partsCome" "[I", Cond.fieldLink R_Term 24 "LazyMachine$Term" "binders" "[I", Cond.fieldLink R_Term 27 "LazyMachine$Term" "open" "[I", Cond.fieldLink R_Term 30 "LazyMachine$Term" "size" "I", Cond.fieldLink R_LazyMachine 10 "LazyMachine" "heap" "LLazyMachine$Heap;", Cond.fieldLink R_LazyMachine 19 "LazyMachine" "pile" "LLazyMachine$Pile;", Cond.fieldLink R_LazyMachine 26 "LazyMachine" "waiting" "LLazyMachine$Term;", Cond.fieldLink R_LazyMachine 30 "LazyMachine" "term" "LLazyMachine$Term;", Cond.fieldLink R_LazyMachine 33 "LazyMachine" "status" "I", Cond.fieldLink R_LazyMachine 93 "LazyMachine" "steps" "I", Cond.fieldLink R_LazyMachine 122 "LazyMachine" "forced" "I", Cond.fieldLink R_LazyMachine 83 "LazyMachine" "back" "Z", Cond.fieldLink R_LazyMachine 132 "LazyMachine" "node" "I", Cond.fieldLink R_LazyMachine 37 "LazyMachine" "environment" "I", Cond.fieldLink R_LazyMachine 98 "LazyMachine" "valueSort" "I", Cond.fieldLink R_LazyMachine 40 "LazyMachine" "valueFirst" "I", Cond.fieldLink R_LazyMachine 43 "LazyMachine" "valueSecond" "I", Cond.methodLink R_Law 47 y_LazyMachine_load, Cond.instanceMethod y_LazyMachine_load, Cond.selects R_LazyMachine y_LazyMachine_load y_LazyMachine_load, Cond.code y_LazyMachine_load b_LazyMachine_load 3 (some .int)]
def wd_3 : List Cond := [Cond.methodLink R_LazyMachine 66 y_Term_settle, Cond.instanceMethod y_Term_settle, Cond.selects R_Term y_Term_settle y_Term_settle, Cond.code y_Term_settle b_Term_settle 3 (some .int), Cond.methodLink R_Term 34 y_Term_givePart, Cond.instanceMethod y_Term_givePart, Cond.code y_Term_givePart b_Term_givePart 4 (some .boolean), Cond.methodLink R_Term 41 y_Term_bindsIn, Cond.static y_Term_bindsIn, Cond.code y_Term_bindsIn b_Term_bindsIn 2 (some .boolean), Cond.methodLink R_LazyMachine 69 y_Term_clear, Cond.instanceMethod y_Term_clear, Cond.selects R_Term y_Term_clear y_Term_clear, Cond.code y_Term_clear b_Term_clear 1 none, Cond.methodLink R_LazyMachine 72 y_LazyMachine_begin, Cond.instanceMethod y_LazyMachine_begin, Cond.code y_LazyMachine_begin b_LazyMachine_begin 2 none, Cond.methodLink R_LazyMachine 138 y_Heap_empty, Cond.instanceMethod y_Heap_empty, Cond.selects R_Heap y_Heap_empty y_Heap_empty, Cond.code y_Heap_empty b_Heap_empty 1 none, Cond.methodLink R_Heap 30 y_Heap_beginMarks, Cond.instanceMethod y_Heap_beginMarks, Cond.selects R_Heap y_Heap_beginMarks y_Heap_beginMarks]
def wd_4 : List Cond := [Cond.code y_Heap_beginMarks b_Heap_beginMarks 1 none, Cond.methodLink R_Heap 33 y_Heap_freeUnreached, Cond.instanceMethod y_Heap_freeUnreached, Cond.selects R_Heap y_Heap_freeUnreached y_Heap_freeUnreached, Cond.code y_Heap_freeUnreached b_Heap_freeUnreached 2 none, Cond.methodLink R_LazyMachine 141 y_Pile_empty, Cond.instanceMethod y_Pile_empty, Cond.selects R_Pile y_Pile_empty y_Pile_empty, Cond.code y_Pile_empty b_Pile_empty 1 none, Cond.methodLink R_LazyMachine 142 y_LazyMachine_enter, Cond.instanceMethod y_LazyMachine_enter, Cond.code y_LazyMachine_enter b_LazyMachine_enter 3 none, Cond.methodLink R_Law 68 y_LazyMachine_count, Cond.instanceMethod y_LazyMachine_count, Cond.selects R_LazyMachine y_LazyMachine_count y_LazyMachine_count, Cond.code y_LazyMachine_count b_LazyMachine_count 2 (some .int), Cond.methodLink R_LazyMachine 62 y_Term_size, Cond.instanceMethod y_Term_size, Cond.selects R_Term y_Term_size y_Term_size, Cond.code y_Term_size b_Term_size 1 (some .int), Cond.methodLink R_LazyMachine 125 y_Pile_size, Cond.instanceMethod y_Pile_size, Cond.selects R_Pile y_Pile_size y_Pile_size, Cond.code y_Pile_size b_Pile_size 1 (some .int)]
def wd_5 : List Cond := [Cond.methodLink R_LazyMachine 126 y_LazyMachine_markRoots, Cond.instanceMethod y_LazyMachine_markRoots, Cond.code y_LazyMachine_markRoots b_LazyMachine_markRoots 1 none, Cond.methodLink R_LazyMachine 239 y_Heap_beginMarks, Cond.methodLink R_LazyMachine 242 y_Heap_reachFrom, Cond.instanceMethod y_Heap_reachFrom, Cond.selects R_Heap y_Heap_reachFrom y_Heap_reachFrom, Cond.code y_Heap_reachFrom b_Heap_reachFrom 4 none, Cond.methodLink R_Heap 54 y_Heap_reach, Cond.instanceMethod y_Heap_reach, Cond.selects R_Heap y_Heap_reach y_Heap_reach, Cond.code y_Heap_reach b_Heap_reach 2 none, Cond.methodLink R_LazyMachine 245 y_Heap_reach, Cond.methodLink R_LazyMachine 248 y_Pile_reachAll, Cond.instanceMethod y_Pile_reachAll, Cond.selects R_Pile y_Pile_reachAll y_Pile_reachAll, Cond.code y_Pile_reachAll b_Pile_reachAll 3 none, Cond.methodLink R_Pile 38 y_Heap_reach, Cond.methodLink R_LazyMachine 129 y_Heap_spreadMarks, Cond.instanceMethod y_Heap_spreadMarks, Cond.selects R_Heap y_Heap_spreadMarks y_Heap_spreadMarks, Cond.code y_Heap_spreadMarks b_Heap_spreadMarks 3 (some .int), Cond.methodLink R_Heap 58 y_Heap_reachFrom, Cond.methodLink R_LazyMachine 135 y_Pile_most]
def wd_6 : List Cond := [Cond.instanceMethod y_Pile_most, Cond.selects R_Pile y_Pile_most y_Pile_most, Cond.code y_Pile_most b_Pile_most 1 (some .int), Cond.methodLink R_Law 37 y_Law_put, Cond.static y_Law_put, Cond.classLink R_Law 13 "java/lang/IllegalArgumentException", Cond.methodLink R_Law 7 y_LazyMachine_put, Cond.instanceMethod y_LazyMachine_put, Cond.selects R_LazyMachine y_LazyMachine_put y_LazyMachine_put, Cond.code y_LazyMachine_put b_LazyMachine_put 3 (some .int), Cond.classLink R_LazyMachine 46 "java/lang/IllegalArgumentException", Cond.arrayClass .byte, Cond.methodLink R_LazyMachine 53 y_LazyMachine_mayBear, Cond.static y_LazyMachine_mayBear, Cond.code y_LazyMachine_mayBear b_LazyMachine_mayBear 2 (some .boolean), Cond.methodLink R_LazyMachine 59 y_Term_add, Cond.instanceMethod y_Term_add, Cond.selects R_Term y_Term_add y_Term_add, Cond.code y_Term_add b_Term_add 3 (some .boolean), Cond.methodLink R_Law 51 y_Law_restart, Cond.static y_Law_restart, Cond.classLink R_Law 18 "java/lang/IllegalStateException", Cond.methodLink R_Law 15 y_LazyMachine_restart, Cond.instanceMethod y_LazyMachine_restart]
def wd_7 : List Cond := [Cond.selects R_LazyMachine y_LazyMachine_restart y_LazyMachine_restart, Cond.code y_LazyMachine_restart b_LazyMachine_restart 1 none, Cond.classLink R_LazyMachine 76 "java/lang/IllegalStateException", Cond.methodLink R_Law 55 y_Law_run, Cond.static y_Law_run, Cond.methodLink R_Law 20 y_LazyMachine_run, Cond.instanceMethod y_LazyMachine_run, Cond.selects R_LazyMachine y_LazyMachine_run y_LazyMachine_run, Cond.code y_LazyMachine_run b_LazyMachine_run 3 (some .int), Cond.methodLink R_LazyMachine 87 y_LazyMachine_stepBack, Cond.instanceMethod y_LazyMachine_stepBack, Cond.code y_LazyMachine_stepBack b_LazyMachine_stepBack 2 (some .int), Cond.methodLink R_LazyMachine 190 y_Pile_topFirst, Cond.instanceMethod y_Pile_topFirst, Cond.selects R_Pile y_Pile_topFirst y_Pile_topFirst, Cond.code y_Pile_topFirst b_Pile_topFirst 1 (some .int), Cond.methodLink R_LazyMachine 193 y_Pile_topSort, Cond.instanceMethod y_Pile_topSort, Cond.selects R_Pile y_Pile_topSort y_Pile_topSort, Cond.code y_Pile_topSort b_Pile_topSort 1 (some .int), Cond.methodLink R_LazyMachine 196 y_Pile_drop, Cond.instanceMethod y_Pile_drop, Cond.selects R_Pile y_Pile_drop y_Pile_drop, Cond.code y_Pile_drop b_Pile_drop 1 none]
def wd_8 : List Cond := [Cond.methodLink R_LazyMachine 199 y_Heap_become, Cond.instanceMethod y_Heap_become, Cond.selects R_Heap y_Heap_become y_Heap_become, Cond.code y_Heap_become b_Heap_become 5 none, Cond.methodLink R_LazyMachine 203 y_LazyMachine_stepArgument, Cond.instanceMethod y_LazyMachine_stepArgument, Cond.code y_LazyMachine_stepArgument b_LazyMachine_stepArgument 2 (some .int), Cond.methodLink R_LazyMachine 111 y_LazyMachine_hasRoomFor, Cond.instanceMethod y_LazyMachine_hasRoomFor, Cond.code y_LazyMachine_hasRoomFor b_LazyMachine_hasRoomFor 2 (some .boolean), Cond.methodLink R_LazyMachine 233 y_Heap_free, Cond.instanceMethod y_Heap_free, Cond.selects R_Heap y_Heap_free y_Heap_free, Cond.code y_Heap_free b_Heap_free 1 (some .int), Cond.methodLink R_LazyMachine 236 y_Heap_freeUnreached, Cond.methodLink R_LazyMachine 119 y_LazyMachine_enterFunction, Cond.instanceMethod y_LazyMachine_enterFunction, Cond.code y_LazyMachine_enterFunction b_LazyMachine_enterFunction 2 none, Cond.methodLink R_LazyMachine 181 y_Term_part, Cond.instanceMethod y_Term_part, Cond.selects R_Term y_Term_part y_Term_part, Cond.code y_Term_part b_Term_part 3 (some .int), Cond.methodLink R_LazyMachine 115 y_Heap_take, Cond.instanceMethod y_Heap_take]
def wd_9 : List Cond := [Cond.selects R_Heap y_Heap_take y_Heap_take, Cond.code y_Heap_take b_Heap_take 5 (some .int), Cond.methodLink R_Heap 40 y_Heap_become, Cond.methodLink R_LazyMachine 206 y_Pile_topSecond, Cond.instanceMethod y_Pile_topSecond, Cond.selects R_Pile y_Pile_topSecond y_Pile_topSecond, Cond.code y_Pile_topSecond b_Pile_topSecond 1 (some .int), Cond.methodLink R_LazyMachine 209 y_LazyMachine_stepLeft, Cond.instanceMethod y_LazyMachine_stepLeft, Cond.code y_LazyMachine_stepLeft b_LazyMachine_stepLeft 3 (some .int), Cond.methodLink R_LazyMachine 178 y_Pile_add, Cond.instanceMethod y_Pile_add, Cond.selects R_Pile y_Pile_add y_Pile_add, Cond.code y_Pile_add b_Pile_add 4 none, Cond.methodLink R_Pile 28 y_Pile_isFull, Cond.instanceMethod y_Pile_isFull, Cond.selects R_Pile y_Pile_isFull y_Pile_isFull, Cond.code y_Pile_isFull b_Pile_isFull 1 (some .boolean), Cond.methodLink R_Pile 32 Lib.Math.max.name, Cond.static Lib.Math.max.name, Cond.code Lib.Math.max.name Lib.Math.max.code 2 (some .int), Cond.methodLink R_LazyMachine 212 y_LazyMachine_stepRight, Cond.instanceMethod y_LazyMachine_stepRight, Cond.code y_LazyMachine_stepRight b_LazyMachine_stepRight 3 (some .int)]
def wd_10 : List Cond := [Cond.methodLink R_LazyMachine 146 y_Term_sort, Cond.instanceMethod y_Term_sort, Cond.selects R_Term y_Term_sort y_Term_sort, Cond.code y_Term_sort b_Term_sort 2 (some .int), Cond.methodLink R_LazyMachine 221 y_LazyMachine_reckon, Cond.static y_LazyMachine_reckon, Cond.code y_LazyMachine_reckon b_LazyMachine_reckon 3 (some .int), Cond.methodLink R_LazyMachine 156 y_LazyMachine_backWith, Cond.instanceMethod y_LazyMachine_backWith, Cond.code y_LazyMachine_backWith b_LazyMachine_backWith 4 (some .int), Cond.methodLink R_LazyMachine 215 y_LazyMachine_stepTest, Cond.instanceMethod y_LazyMachine_stepTest, Cond.code y_LazyMachine_stepTest b_LazyMachine_stepTest 3 (some .int), Cond.methodLink R_LazyMachine 218 y_LazyMachine_stepPart, Cond.instanceMethod y_LazyMachine_stepPart, Cond.code y_LazyMachine_stepPart b_LazyMachine_stepPart 3 (some .int), Cond.methodLink R_LazyMachine 224 y_Heap_state, Cond.instanceMethod y_Heap_state, Cond.selects R_Heap y_Heap_state y_Heap_state, Cond.code y_Heap_state b_Heap_state 2 (some .int), Cond.methodLink R_LazyMachine 105 y_LazyMachine_ask, Cond.instanceMethod y_LazyMachine_ask, Cond.code y_LazyMachine_ask b_LazyMachine_ask 5 (some .int), Cond.methodLink R_LazyMachine 227 y_Heap_first]
def wd_11 : List Cond := [Cond.instanceMethod y_Heap_first, Cond.selects R_Heap y_Heap_first y_Heap_first, Cond.code y_Heap_first b_Heap_first 2 (some .int), Cond.methodLink R_LazyMachine 230 y_Heap_second, Cond.instanceMethod y_Heap_second, Cond.selects R_Heap y_Heap_second y_Heap_second, Cond.code y_Heap_second b_Heap_second 2 (some .int), Cond.methodLink R_LazyMachine 174 y_Pile_isFull, Cond.methodLink R_LazyMachine 90 y_LazyMachine_stepAt, Cond.instanceMethod y_LazyMachine_stepAt, Cond.code y_LazyMachine_stepAt b_LazyMachine_stepAt 1 (some .int), Cond.methodLink R_LazyMachine 149 y_Term_x, Cond.instanceMethod y_Term_x, Cond.selects R_Term y_Term_x y_Term_x, Cond.code y_Term_x b_Term_x 2 (some .int), Cond.methodLink R_LazyMachine 152 y_Heap_boundTo, Cond.instanceMethod y_Heap_boundTo, Cond.selects R_Heap y_Heap_boundTo y_Heap_boundTo, Cond.code y_Heap_boundTo b_Heap_boundTo 5 (some .int), Cond.methodLink R_Heap 44 y_Heap_first, Cond.methodLink R_LazyMachine 159 y_LazyMachine_stepApply, Cond.instanceMethod y_LazyMachine_stepApply, Cond.code y_LazyMachine_stepApply b_LazyMachine_stepApply 2 (some .int), Cond.methodLink R_LazyMachine 184 y_LazyMachine_cellsFor]
def wd_12 : List Cond := [Cond.instanceMethod y_LazyMachine_cellsFor, Cond.code y_LazyMachine_cellsFor b_LazyMachine_cellsFor 2 (some .int), Cond.methodLink R_LazyMachine 187 y_LazyMachine_thunkFor, Cond.instanceMethod y_LazyMachine_thunkFor, Cond.code y_LazyMachine_thunkFor b_LazyMachine_thunkFor 2 (some .int), Cond.methodLink R_LazyMachine 162 y_LazyMachine_stepUnder, Cond.instanceMethod y_LazyMachine_stepUnder, Cond.code y_LazyMachine_stepUnder b_LazyMachine_stepUnder 4 (some .int), Cond.methodLink R_LazyMachine 165 y_LazyMachine_stepFix, Cond.instanceMethod y_LazyMachine_stepFix, Cond.code y_LazyMachine_stepFix b_LazyMachine_stepFix 2 (some .int), Cond.methodLink R_LazyMachine 168 y_LazyMachine_stepLet, Cond.instanceMethod y_LazyMachine_stepLet, Cond.code y_LazyMachine_stepLet b_LazyMachine_stepLet 3 (some .int), Cond.methodLink R_LazyMachine 171 y_LazyMachine_stepPair, Cond.instanceMethod y_LazyMachine_stepPair, Cond.code y_LazyMachine_stepPair b_LazyMachine_stepPair 4 (some .int), Cond.methodLink R_Law 59 y_Law_result, Cond.static y_Law_result, Cond.methodLink R_Law 24 y_LazyMachine_result, Cond.instanceMethod y_LazyMachine_result, Cond.selects R_LazyMachine y_LazyMachine_result y_LazyMachine_result, Cond.code y_LazyMachine_result b_LazyMachine_result 3 (some .int), Cond.methodLink R_Law 62 y_Law_into]
def wd_13 : List Cond := [Cond.static y_Law_into, Cond.methodLink R_Law 27 y_LazyMachine_into, Cond.instanceMethod y_LazyMachine_into, Cond.selects R_LazyMachine y_LazyMachine_into y_LazyMachine_into, Cond.code y_LazyMachine_into b_LazyMachine_into 2 (some .int), Cond.methodLink R_Law 65 y_Law_apply, Cond.static y_Law_apply, Cond.methodLink R_Law 30 y_LazyMachine_apply, Cond.instanceMethod y_LazyMachine_apply, Cond.selects R_LazyMachine y_LazyMachine_apply y_LazyMachine_apply, Cond.code y_LazyMachine_apply b_LazyMachine_apply 2 (some .int), Cond.classLink R_Law 34 R_Model, Cond.instantiable R_Model 30, Cond.methodLink R_Law 36 y_Model_init, Cond.instanceMethod y_Model_init, Cond.code y_Model_init b_Model_init 1 none, Cond.methodLink R_Model 1 objectInit, Cond.fieldLink R_Model 56 "LazyMachineModel" "thrown" "I", Cond.fieldLink R_Model 7 "LazyMachineModel" "sorts" "[I", Cond.fieldLink R_Model 13 "LazyMachineModel" "xs" "[I", Cond.fieldLink R_Model 64 "LazyMachineModel" "told" "I", Cond.fieldLink R_Model 16 "LazyMachineModel" "sort" "[I", Cond.fieldLink R_Model 19 "LazyMachineModel" "number" "[I", Cond.fieldLink R_Model 22 "LazyMachineModel" "child" "[I"]
def wd_14 : List Cond := [Cond.fieldLink R_Model 67 "LazyMachineModel" "size" "I", Cond.fieldLink R_Model 25 "LazyMachineModel" "owner" "[I", Cond.fieldLink R_Model 28 "LazyMachineModel" "around" "[I", Cond.fieldLink R_Model 31 "LazyMachineModel" "is" "[I", Cond.fieldLink R_Model 34 "LazyMachineModel" "one" "[I", Cond.fieldLink R_Model 37 "LazyMachineModel" "two" "[I", Cond.fieldLink R_Model 40 "LazyMachineModel" "reached" "[Z", Cond.fieldLink R_Model 44 "LazyMachineModel" "todo" "[I", Cond.fieldLink R_Model 102 "LazyMachineModel" "left" "I", Cond.fieldLink R_Model 47 "LazyMachineModel" "what" "[I", Cond.fieldLink R_Model 50 "LazyMachineModel" "first" "[I", Cond.fieldLink R_Model 53 "LazyMachineModel" "second" "[I", Cond.fieldLink R_Model 86 "LazyMachineModel" "frames" "I", Cond.fieldLink R_Model 89 "LazyMachineModel" "most" "I", Cond.fieldLink R_Model 70 "LazyMachineModel" "status" "I", Cond.fieldLink R_Model 80 "LazyMachineModel" "steps" "I", Cond.fieldLink R_Model 83 "LazyMachineModel" "forced" "I", Cond.fieldLink R_Model 92 "LazyMachineModel" "back" "Z", Cond.fieldLink R_Model 96 "LazyMachineModel" "node" "I", Cond.fieldLink R_Model 99 "LazyMachineModel" "environment" "I", Cond.fieldLink R_Model 109 "LazyMachineModel" "valueSort" "I", Cond.fieldLink R_Model 112 "LazyMachineModel" "valueOne" "I", Cond.fieldLink R_Model 115 "LazyMachineModel" "valueTwo" "I", Cond.arrayClass .boolean]
def wd_15 : List Cond := [Cond.methodLink R_Law 43 y_Model_thrown, Cond.instanceMethod y_Model_thrown, Cond.selects R_Model y_Model_thrown y_Model_thrown, Cond.code y_Model_thrown b_Model_thrown 1 (some .int), Cond.methodLink R_Law 42 y_Model_put, Cond.instanceMethod y_Model_put, Cond.selects R_Model y_Model_put y_Model_put, Cond.code y_Model_put b_Model_put 4 (some .int), Cond.methodLink R_Model 60 y_Model_fails, Cond.instanceMethod y_Model_fails, Cond.code y_Model_fails b_Model_fails 3 (some .boolean), Cond.methodLink R_Law 50 y_Model_load, Cond.instanceMethod y_Model_load, Cond.selects R_Model y_Model_load y_Model_load, Cond.code y_Model_load b_Model_load 8 (some .int), Cond.methodLink R_Model 73 y_Model_many, Cond.static y_Model_many, Cond.code y_Model_many b_Model_many 1 (some .int), Cond.methodLink R_Model 77 y_Model_begin, Cond.instanceMethod y_Model_begin, Cond.code y_Model_begin b_Model_begin 1 none, Cond.methodLink R_Law 54 y_Model_restart, Cond.instanceMethod y_Model_restart, Cond.selects R_Model y_Model_restart y_Model_restart]
def wd_16 : List Cond := [Cond.code y_Model_restart b_Model_restart 1 none, Cond.methodLink R_Law 58 y_Model_run, Cond.instanceMethod y_Model_run, Cond.selects R_Model y_Model_run y_Model_run, Cond.code y_Model_run b_Model_run 4 (some .int), Cond.methodLink R_Model 170 y_Model_returns, Cond.instanceMethod y_Model_returns, Cond.code y_Model_returns b_Model_returns 6 (some .boolean), Cond.methodLink R_Model 129 y_Model_stops, Cond.instanceMethod y_Model_stops, Cond.code y_Model_stops b_Model_stops 2 (some .boolean), Cond.methodLink R_Model 158 y_Model_isFull, Cond.instanceMethod y_Model_isFull, Cond.code y_Model_isFull b_Model_isFull 2 (some .boolean), Cond.methodLink R_Model 133 y_Model_mark, Cond.instanceMethod y_Model_mark, Cond.code y_Model_mark b_Model_mark 3 (some .int), Cond.methodLink R_Model 118 y_Model_meetValue, Cond.instanceMethod y_Model_meetValue, Cond.code y_Model_meetValue b_Model_meetValue 4 none, Cond.methodLink R_Model 105 y_Model_meet, Cond.instanceMethod y_Model_meet, Cond.code y_Model_meet b_Model_meet 2 none, Cond.methodLink R_Model 125 y_Model_cell]
def wd_17 : List Cond := [Cond.instanceMethod y_Model_cell, Cond.code y_Model_cell b_Model_cell 5 (some .int), Cond.methodLink R_Model 147 y_Model_go, Cond.instanceMethod y_Model_go, Cond.code y_Model_go b_Model_go 3 none, Cond.methodLink R_Model 144 y_Model_push, Cond.instanceMethod y_Model_push, Cond.code y_Model_push b_Model_push 4 none, Cond.methodLink R_Model 164 y_Model_reckoned, Cond.static y_Model_reckoned, Cond.code y_Model_reckoned b_Model_reckoned 3 (some .int), Cond.methodLink R_Model 137 y_Model_give, Cond.instanceMethod y_Model_give, Cond.code y_Model_give b_Model_give 4 none, Cond.methodLink R_Model 167 y_Model_part, Cond.instanceMethod y_Model_part, Cond.code y_Model_part b_Model_part 3 (some .boolean), Cond.methodLink R_Model 151 y_Model_asks, Cond.instanceMethod y_Model_asks, Cond.code y_Model_asks b_Model_asks 5 (some .boolean), Cond.methodLink R_Model 140 y_Model_isHigh, Cond.instanceMethod y_Model_isHigh, Cond.code y_Model_isHigh b_Model_isHigh 1 (some .boolean), Cond.methodLink R_Model 173 y_Model_at]
def wd_18 : List Cond := [Cond.instanceMethod y_Model_at, Cond.code y_Model_at b_Model_at 9 (some .boolean), Cond.methodLink R_Model 122 y_Model_bound, Cond.instanceMethod y_Model_bound, Cond.code y_Model_bound b_Model_bound 4 (some .int), Cond.methodLink R_Model 155 y_Model_costs, Cond.instanceMethod y_Model_costs, Cond.code y_Model_costs b_Model_costs 2 (some .int), Cond.methodLink R_Model 161 y_Model_thunk, Cond.instanceMethod y_Model_thunk, Cond.code y_Model_thunk b_Model_thunk 2 (some .int), Cond.methodLink R_Law 61 y_Model_result, Cond.instanceMethod y_Model_result, Cond.selects R_Model y_Model_result y_Model_result, Cond.code y_Model_result b_Model_result 2 (some .int), Cond.methodLink R_Law 64 y_Model_into, Cond.instanceMethod y_Model_into, Cond.selects R_Model y_Model_into y_Model_into, Cond.code y_Model_into b_Model_into 3 (some .int), Cond.methodLink R_Law 67 y_Model_apply, Cond.instanceMethod y_Model_apply, Cond.selects R_Model y_Model_apply y_Model_apply, Cond.code y_Model_apply b_Model_apply 4 (some .int), Cond.methodLink R_Law 71 y_Model_count]
def wd_19 : List Cond := [Cond.instanceMethod y_Model_count, Cond.selects R_Model y_Model_count y_Model_count, Cond.code y_Model_count b_Model_count 3 (some .int), Cond.arrayClass .long, Cond.selects R_Term y_Term_givePart y_Term_givePart, Cond.selects R_LazyMachine y_LazyMachine_begin y_LazyMachine_begin, Cond.selects R_LazyMachine y_LazyMachine_enter y_LazyMachine_enter, Cond.selects R_LazyMachine y_LazyMachine_markRoots y_LazyMachine_markRoots, Cond.selects R_LazyMachine y_LazyMachine_stepBack y_LazyMachine_stepBack, Cond.selects R_LazyMachine y_LazyMachine_stepArgument y_LazyMachine_stepArgument, Cond.selects R_LazyMachine y_LazyMachine_hasRoomFor y_LazyMachine_hasRoomFor, Cond.selects R_LazyMachine y_LazyMachine_enterFunction y_LazyMachine_enterFunction, Cond.selects R_LazyMachine y_LazyMachine_stepLeft y_LazyMachine_stepLeft, Cond.selects R_LazyMachine y_LazyMachine_stepRight y_LazyMachine_stepRight, Cond.selects R_LazyMachine y_LazyMachine_backWith y_LazyMachine_backWith, Cond.selects R_LazyMachine y_LazyMachine_stepTest y_LazyMachine_stepTest, Cond.selects R_LazyMachine y_LazyMachine_stepPart y_LazyMachine_stepPart, Cond.selects R_LazyMachine y_LazyMachine_ask y_LazyMachine_ask, Cond.selects R_LazyMachine y_LazyMachine_stepAt y_LazyMachine_stepAt, Cond.selects R_LazyMachine y_LazyMachine_stepApply y_LazyMachine_stepApply, Cond.selects R_LazyMachine y_LazyMachine_cellsFor y_LazyMachine_cellsFor, Cond.selects R_LazyMachine y_LazyMachine_thunkFor y_LazyMachine_thunkFor, Cond.selects R_LazyMachine y_LazyMachine_stepUnder y_LazyMachine_stepUnder, Cond.selects R_LazyMachine y_LazyMachine_stepFix y_LazyMachine_stepFix]
def wd_20 : List Cond := [Cond.selects R_LazyMachine y_LazyMachine_stepLet y_LazyMachine_stepLet, Cond.selects R_LazyMachine y_LazyMachine_stepPair y_LazyMachine_stepPair, Cond.selects R_Model y_Model_fails y_Model_fails, Cond.selects R_Model y_Model_begin y_Model_begin, Cond.selects R_Model y_Model_returns y_Model_returns, Cond.selects R_Model y_Model_stops y_Model_stops, Cond.selects R_Model y_Model_isFull y_Model_isFull, Cond.selects R_Model y_Model_mark y_Model_mark, Cond.selects R_Model y_Model_meetValue y_Model_meetValue, Cond.selects R_Model y_Model_meet y_Model_meet, Cond.selects R_Model y_Model_cell y_Model_cell, Cond.selects R_Model y_Model_go y_Model_go, Cond.selects R_Model y_Model_push y_Model_push, Cond.selects R_Model y_Model_give y_Model_give, Cond.selects R_Model y_Model_part y_Model_part, Cond.selects R_Model y_Model_asks y_Model_asks, Cond.selects R_Model y_Model_isHigh y_Model_isHigh, Cond.selects R_Model y_Model_at y_Model_at, Cond.selects R_Model y_Model_bound y_Model_bound, Cond.selects R_Model y_Model_costs y_Model_costs, Cond.selects R_Model y_Model_thunk y_Model_thunk]
def wd : List Cond := wd_0 ++ (wd_1 ++ (wd_2 ++ (wd_3 ++ (wd_4 ++ (wd_5 ++ (wd_6 ++ (wd_7 ++ (wd_8 ++ (wd_9 ++ (wd_10 ++ (wd_11 ++ (wd_12 ++ (wd_13 ++ (wd_14 ++ (wd_15 ++ (wd_16 ++ (wd_17 ++ (wd_18 ++ (wd_19 ++ (wd_20 ++ (u_ws R_LazyMachine F_LazyMachine 13 ++ (u_ws R_Heap F_Heap 9 ++ (u_ws R_Pile F_Pile 5 ++ (u_ws R_Term F_Term 7 ++ (u_ws R_Model F_Model 30)))))))))))))))))))))))))
theorem wi_0 : ∀ w ∈ wd_0, w ∈ wd := fun _ h => (List.mem_append_left _ h)
theorem wi_1 : ∀ w ∈ wd_1, w ∈ wd := fun _ h => (List.mem_append_right _ (List.mem_append_left _ h))
theorem wi_2 : ∀ w ∈ wd_2, w ∈ wd := fun _ h => (List.mem_append_right _ (List.mem_append_right _ (List.mem_append_left _ h)))
theorem wi_3 : ∀ w ∈ wd_3, w ∈ wd := fun _ h => (List.mem_append_right _ (List.mem_append_right _ (List.mem_append_right _ (List.mem_append_left _ h))))
theorem wi_4 : ∀ w ∈ wd_4, w ∈ wd := fun _ h => (List.mem_append_right _ (List.mem_append_right _ (List.mem_append_right _ (List.mem_append_right _ (List.mem_append_left _ h)))))
theorem wi_5 : ∀ w ∈ wd_5, w ∈ wd := fun _ h => (List.mem_append_right _ (List.mem_append_right _ (List.mem_append_right _ (List.mem_append_right _ (List.mem_append_right _ (List.mem_append_left _ h))))))
theorem wi_6 : ∀ w ∈ wd_6, w ∈ wd := fun _ h => (List.mem_append_right _ (List.mem_append_right _ (List.mem_append_right _ (List.mem_append_right _ (List.mem_append_right _ (List.mem_append_right _ (List.mem_append_left _ h)))))))
theorem wi_7 : ∀ w ∈ wd_7, w ∈ wd := fun _ h => (List.mem_append_right _ (List.mem_append_right _ (List.mem_append_right _ (List.mem_append_right _ (List.mem_append_right _ (List.mem_append_right _ (List.mem_append_right _ (List.mem_append_left _ h))))))))
theorem wi_8 : ∀ w ∈ wd_8, w ∈ wd := fun _ h => (List.mem_append_right _ (List.mem_append_right _ (List.mem_append_right _ (List.mem_append_right _ (List.mem_append_right _ (List.mem_append_right _ (List.mem_append_right _ (List.mem_append_right _ (List.mem_append_left _ h)))))))))
theorem wi_9 : ∀ w ∈ wd_9, w ∈ wd := fun _ h => (List.mem_append_right _ (List.mem_append_right _ (List.mem_append_right _ (List.mem_append_right _ (List.mem_append_right _ (List.mem_append_right _ (List.mem_append_right _ (List.mem_append_right _ (List.mem_append_right _ (List.mem_append_left _ h))))))))))
theorem wi_10 : ∀ w ∈ wd_10, w ∈ wd := fun _ h => (List.mem_append_right _ (List.mem_append_right _ (List.mem_append_right _ (List.mem_append_right _ (List.mem_append_right _ (List.mem_append_right _ (List.mem_append_right _ (List.mem_append_right _ (List.mem_append_right _ (List.mem_append_right _ (List.mem_append_left _ h)))))))))))
theorem wi_11 : ∀ w ∈ wd_11, w ∈ wd := fun _ h => (List.mem_append_right _ (List.mem_append_right _ (List.mem_append_right _ (List.mem_append_right _ (List.mem_append_right _ (List.mem_append_right _ (List.mem_append_right _ (List.mem_append_right _ (List.mem_append_right _ (List.mem_append_right _ (List.mem_append_right _ (List.mem_append_left _ h))))))))))))
theorem wi_12 : ∀ w ∈ wd_12, w ∈ wd := fun _ h => (List.mem_append_right _ (List.mem_append_right _ (List.mem_append_right _ (List.mem_append_right _ (List.mem_append_right _ (List.mem_append_right _ (List.mem_append_right _ (List.mem_append_right _ (List.mem_append_right _ (List.mem_append_right _ (List.mem_append_right _ (List.mem_append_right _ (List.mem_append_left _ h)))))))))))))
theorem wi_13 : ∀ w ∈ wd_13, w ∈ wd := fun _ h => (List.mem_append_right _ (List.mem_append_right _ (List.mem_append_right _ (List.mem_append_right _ (List.mem_append_right _ (List.mem_append_right _ (List.mem_append_right _ (List.mem_append_right _ (List.mem_append_right _ (List.mem_append_right _ (List.mem_append_right _ (List.mem_append_right _ (List.mem_append_right _ (List.mem_append_left _ h))))))))))))))
theorem wi_14 : ∀ w ∈ wd_14, w ∈ wd := fun _ h => (List.mem_append_right _ (List.mem_append_right _ (List.mem_append_right _ (List.mem_append_right _ (List.mem_append_right _ (List.mem_append_right _ (List.mem_append_right _ (List.mem_append_right _ (List.mem_append_right _ (List.mem_append_right _ (List.mem_append_right _ (List.mem_append_right _ (List.mem_append_right _ (List.mem_append_right _ (List.mem_append_left _ h)))))))))))))))
theorem wi_15 : ∀ w ∈ wd_15, w ∈ wd := fun _ h => (List.mem_append_right _ (List.mem_append_right _ (List.mem_append_right _ (List.mem_append_right _ (List.mem_append_right _ (List.mem_append_right _ (List.mem_append_right _ (List.mem_append_right _ (List.mem_append_right _ (List.mem_append_right _ (List.mem_append_right _ (List.mem_append_right _ (List.mem_append_right _ (List.mem_append_right _ (List.mem_append_right _ (List.mem_append_left _ h))))))))))))))))
theorem wi_16 : ∀ w ∈ wd_16, w ∈ wd := fun _ h => (List.mem_append_right _ (List.mem_append_right _ (List.mem_append_right _ (List.mem_append_right _ (List.mem_append_right _ (List.mem_append_right _ (List.mem_append_right _ (List.mem_append_right _ (List.mem_append_right _ (List.mem_append_right _ (List.mem_append_right _ (List.mem_append_right _ (List.mem_append_right _ (List.mem_append_right _ (List.mem_append_right _ (List.mem_append_right _ (List.mem_append_left _ h)))))))))))))))))
theorem wi_17 : ∀ w ∈ wd_17, w ∈ wd := fun _ h => (List.mem_append_right _ (List.mem_append_right _ (List.mem_append_right _ (List.mem_append_right _ (List.mem_append_right _ (List.mem_append_right _ (List.mem_append_right _ (List.mem_append_right _ (List.mem_append_right _ (List.mem_append_right _ (List.mem_append_right _ (List.mem_append_right _ (List.mem_append_right _ (List.mem_append_right _ (List.mem_append_right _ (List.mem_append_right _ (List.mem_append_right _ (List.mem_append_left _ h))))))))))))))))))
theorem wi_18 : ∀ w ∈ wd_18, w ∈ wd := fun _ h => (List.mem_append_right _ (List.mem_append_right _ (List.mem_append_right _ (List.mem_append_right _ (List.mem_append_right _ (List.mem_append_right _ (List.mem_append_right _ (List.mem_append_right _ (List.mem_append_right _ (List.mem_append_right _ (List.mem_append_right _ (List.mem_append_right _ (List.mem_append_right _ (List.mem_append_right _ (List.mem_append_right _ (List.mem_append_right _ (List.mem_append_right _ (List.mem_append_right _ (List.mem_append_left _ h)))))))))))))))))))
theorem wi_19 : ∀ w ∈ wd_19, w ∈ wd := fun _ h => (List.mem_append_right _ (List.mem_append_right _ (List.mem_append_right _ (List.mem_append_right _ (List.mem_append_right _ (List.mem_append_right _ (List.mem_append_right _ (List.mem_append_right _ (List.mem_append_right _ (List.mem_append_right _ (List.mem_append_right _ (List.mem_append_right _ (List.mem_append_right _ (List.mem_append_right _ (List.mem_append_right _ (List.mem_append_right _ (List.mem_append_right _ (List.mem_append_right _ (List.mem_append_right _ (List.mem_append_left _ h))))))))))))))))))))
theorem wi_20 : ∀ w ∈ wd_20, w ∈ wd := fun _ h => (List.mem_append_right _ (List.mem_append_right _ (List.mem_append_right _ (List.mem_append_right _ (List.mem_append_right _ (List.mem_append_right _ (List.mem_append_right _ (List.mem_append_right _ (List.mem_append_right _ (List.mem_append_right _ (List.mem_append_right _ (List.mem_append_right _ (List.mem_append_right _ (List.mem_append_right _ (List.mem_append_right _ (List.mem_append_right _ (List.mem_append_right _ (List.mem_append_right _ (List.mem_append_right _ (List.mem_append_right _ (List.mem_append_left _ h)))))))))))))))))))))
theorem i_LazyMachine : ∀ w ∈ u_ws R_LazyMachine F_LazyMachine 13, w ∈ wd := fun _ h => (List.mem_append_right _ (List.mem_append_right _ (List.mem_append_right _ (List.mem_append_right _ (List.mem_append_right _ (List.mem_append_right _ (List.mem_append_right _ (List.mem_append_right _ (List.mem_append_right _ (List.mem_append_right _ (List.mem_append_right _ (List.mem_append_right _ (List.mem_append_right _ (List.mem_append_right _ (List.mem_append_right _ (List.mem_append_right _ (List.mem_append_right _ (List.mem_append_right _ (List.mem_append_right _ (List.mem_append_right _ (List.mem_append_right _ (List.mem_append_left _ h))))))))))))))))))))))
theorem i_Heap : ∀ w ∈ u_ws R_Heap F_Heap 9, w ∈ wd := fun _ h => (List.mem_append_right _ (List.mem_append_right _ (List.mem_append_right _ (List.mem_append_right _ (List.mem_append_right _ (List.mem_append_right _ (List.mem_append_right _ (List.mem_append_right _ (List.mem_append_right _ (List.mem_append_right _ (List.mem_append_right _ (List.mem_append_right _ (List.mem_append_right _ (List.mem_append_right _ (List.mem_append_right _ (List.mem_append_right _ (List.mem_append_right _ (List.mem_append_right _ (List.mem_append_right _ (List.mem_append_right _ (List.mem_append_right _ (List.mem_append_right _ (List.mem_append_left _ h)))))))))))))))))))))))
theorem i_Pile : ∀ w ∈ u_ws R_Pile F_Pile 5, w ∈ wd := fun _ h => (List.mem_append_right _ (List.mem_append_right _ (List.mem_append_right _ (List.mem_append_right _ (List.mem_append_right _ (List.mem_append_right _ (List.mem_append_right _ (List.mem_append_right _ (List.mem_append_right _ (List.mem_append_right _ (List.mem_append_right _ (List.mem_append_right _ (List.mem_append_right _ (List.mem_append_right _ (List.mem_append_right _ (List.mem_append_right _ (List.mem_append_right _ (List.mem_append_right _ (List.mem_append_right _ (List.mem_append_right _ (List.mem_append_right _ (List.mem_append_right _ (List.mem_append_right _ (List.mem_append_left _ h))))))))))))))))))))))))
theorem i_Term : ∀ w ∈ u_ws R_Term F_Term 7, w ∈ wd := fun _ h => (List.mem_append_right _ (List.mem_append_right _ (List.mem_append_right _ (List.mem_append_right _ (List.mem_append_right _ (List.mem_append_right _ (List.mem_append_right _ (List.mem_append_right _ (List.mem_append_right _ (List.mem_append_right _ (List.mem_append_right _ (List.mem_append_right _ (List.mem_append_right _ (List.mem_append_right _ (List.mem_append_right _ (List.mem_append_right _ (List.mem_append_right _ (List.mem_append_right _ (List.mem_append_right _ (List.mem_append_right _ (List.mem_append_right _ (List.mem_append_right _ (List.mem_append_right _ (List.mem_append_right _ (List.mem_append_left _ h)))))))))))))))))))))))))
theorem i_Model : ∀ w ∈ u_ws R_Model F_Model 30, w ∈ wd := fun _ h => (List.mem_append_right _ (List.mem_append_right _ (List.mem_append_right _ (List.mem_append_right _ (List.mem_append_right _ (List.mem_append_right _ (List.mem_append_right _ (List.mem_append_right _ (List.mem_append_right _ (List.mem_append_right _ (List.mem_append_right _ (List.mem_append_right _ (List.mem_append_right _ (List.mem_append_right _ (List.mem_append_right _ (List.mem_append_right _ (List.mem_append_right _ (List.mem_append_right _ (List.mem_append_right _ (List.mem_append_right _ (List.mem_append_right _ (List.mem_append_right _ (List.mem_append_right _ (List.mem_append_right _ (List.mem_append_right _ h)))))))))))))))))))))))))
theorem wd_good : wd.all goodWord = true := by decide +kernel
theorem m_0_0 : Cond.initialized R_Law ∈ wd := wi_0 _ (List.mem_of_getElem? (i := 0) rfl)
theorem m_0_1 : Cond.initialized R_LazyMachine ∈ wd := wi_0 _ (List.mem_of_getElem? (i := 1) rfl)
theorem m_0_2 : Cond.initialized R_Heap ∈ wd := wi_0 _ (List.mem_of_getElem? (i := 2) rfl)
theorem m_0_3 : Cond.initialized R_Pile ∈ wd := wi_0 _ (List.mem_of_getElem? (i := 3) rfl)
theorem m_0_4 : Cond.initialized R_Term ∈ wd := wi_0 _ (List.mem_of_getElem? (i := 4) rfl)
theorem m_0_5 : Cond.initialized R_Model ∈ wd := wi_0 _ (List.mem_of_getElem? (i := 5) rfl)
theorem m_0_6 : Cond.initialized "java/lang/Math" ∈ wd := wi_0 _ (List.mem_of_getElem? (i := 6) rfl)
theorem m_0_7 : Cond.classLink R_Law 8 R_LazyMachine ∈ wd := wi_0 _ (List.mem_of_getElem? (i := 7) rfl)
theorem m_0_8 : Cond.instantiable R_LazyMachine 13 ∈ wd := wi_0 _ (List.mem_of_getElem? (i := 8) rfl)
theorem m_0_9 : Cond.methodLink R_Law 33 y_LazyMachine_init ∈ wd := wi_0 _ (List.mem_of_getElem? (i := 9) rfl)
theorem m_0_10 : Cond.instanceMethod y_LazyMachine_init ∈ wd := wi_0 _ (List.mem_of_getElem? (i := 10) rfl)
theorem m_0_11 : Cond.code y_LazyMachine_init b_LazyMachine_init 1 none ∈ wd := wi_0 _ (List.mem_of_getElem? (i := 11) rfl)
theorem m_0_12 : Cond.methodLink R_LazyMachine 1 objectInit ∈ wd := wi_0 _ (List.mem_of_getElem? (i := 12) rfl)
theorem m_0_13 : Cond.instanceMethod objectInit ∈ wd := wi_0 _ (List.mem_of_getElem? (i := 13) rfl)
theorem m_0_14 : Cond.code objectInit ⟨#[0xb1]⟩ 1 none ∈ wd := wi_0 _ (List.mem_of_getElem? (i := 14) rfl)
theorem m_0_15 : Cond.classLink R_LazyMachine 7 R_Heap ∈ wd := wi_0 _ (List.mem_of_getElem? (i := 15) rfl)
theorem m_0_16 : Cond.instantiable R_Heap 9 ∈ wd := wi_0 _ (List.mem_of_getElem? (i := 16) rfl)
theorem m_0_17 : Cond.methodLink R_LazyMachine 9 y_Heap_init ∈ wd := wi_0 _ (List.mem_of_getElem? (i := 17) rfl)
theorem m_0_18 : Cond.instanceMethod y_Heap_init ∈ wd := wi_0 _ (List.mem_of_getElem? (i := 18) rfl)
theorem m_0_19 : Cond.code y_Heap_init b_Heap_init 1 none ∈ wd := wi_0 _ (List.mem_of_getElem? (i := 19) rfl)
theorem m_0_20 : Cond.methodLink R_Heap 3 objectInit ∈ wd := wi_0 _ (List.mem_of_getElem? (i := 20) rfl)
theorem m_0_21 : Cond.fieldLink R_Heap 9 "LazyMachine$Heap" "states" "[I" ∈ wd := wi_0 _ (List.mem_of_getElem? (i := 21) rfl)
theorem m_0_22 : Cond.fieldLink R_Heap 15 "LazyMachine$Heap" "firsts" "[I" ∈ wd := wi_0 _ (List.mem_of_getElem? (i := 22) rfl)
theorem m_0_23 : Cond.fieldLink R_Heap 18 "LazyMachine$Heap" "seconds" "[I" ∈ wd := wi_0 _ (List.mem_of_getElem? (i := 23) rfl)
theorem m_1_0 : Cond.fieldLink R_Heap 21 "LazyMachine$Heap" "freeCells" "[I" ∈ wd := wi_1 _ (List.mem_of_getElem? (i := 0) rfl)
theorem m_1_1 : Cond.fieldLink R_Heap 24 "LazyMachine$Heap" "marks" "[I" ∈ wd := wi_1 _ (List.mem_of_getElem? (i := 1) rfl)
theorem m_1_2 : Cond.fieldLink R_Heap 27 "LazyMachine$Heap" "reached" "[I" ∈ wd := wi_1 _ (List.mem_of_getElem? (i := 2) rfl)
theorem m_1_3 : Cond.fieldLink R_Heap 36 "LazyMachine$Heap" "free" "I" ∈ wd := wi_1 _ (List.mem_of_getElem? (i := 3) rfl)
theorem m_1_4 : Cond.fieldLink R_Heap 48 "LazyMachine$Heap" "round" "I" ∈ wd := wi_1 _ (List.mem_of_getElem? (i := 4) rfl)
theorem m_1_5 : Cond.fieldLink R_Heap 51 "LazyMachine$Heap" "reachedCount" "I" ∈ wd := wi_1 _ (List.mem_of_getElem? (i := 5) rfl)
theorem m_1_6 : Cond.arrayClass .int ∈ wd := wi_1 _ (List.mem_of_getElem? (i := 6) rfl)
theorem m_1_7 : Cond.classLink R_LazyMachine 16 R_Pile ∈ wd := wi_1 _ (List.mem_of_getElem? (i := 7) rfl)
theorem m_1_8 : Cond.instantiable R_Pile 5 ∈ wd := wi_1 _ (List.mem_of_getElem? (i := 8) rfl)
theorem m_1_9 : Cond.methodLink R_LazyMachine 18 y_Pile_init ∈ wd := wi_1 _ (List.mem_of_getElem? (i := 9) rfl)
theorem m_1_10 : Cond.instanceMethod y_Pile_init ∈ wd := wi_1 _ (List.mem_of_getElem? (i := 10) rfl)
theorem m_1_11 : Cond.code y_Pile_init b_Pile_init 1 none ∈ wd := wi_1 _ (List.mem_of_getElem? (i := 11) rfl)
theorem m_1_12 : Cond.methodLink R_Pile 3 objectInit ∈ wd := wi_1 _ (List.mem_of_getElem? (i := 12) rfl)
theorem m_1_13 : Cond.fieldLink R_Pile 9 "LazyMachine$Pile" "sorts" "[I" ∈ wd := wi_1 _ (List.mem_of_getElem? (i := 13) rfl)
theorem m_1_14 : Cond.fieldLink R_Pile 15 "LazyMachine$Pile" "firsts" "[I" ∈ wd := wi_1 _ (List.mem_of_getElem? (i := 14) rfl)
theorem m_1_15 : Cond.fieldLink R_Pile 18 "LazyMachine$Pile" "seconds" "[I" ∈ wd := wi_1 _ (List.mem_of_getElem? (i := 15) rfl)
theorem m_1_16 : Cond.fieldLink R_Pile 21 "LazyMachine$Pile" "size" "I" ∈ wd := wi_1 _ (List.mem_of_getElem? (i := 16) rfl)
theorem m_1_17 : Cond.fieldLink R_Pile 25 "LazyMachine$Pile" "most" "I" ∈ wd := wi_1 _ (List.mem_of_getElem? (i := 17) rfl)
theorem m_1_18 : Cond.classLink R_LazyMachine 23 R_Term ∈ wd := wi_1 _ (List.mem_of_getElem? (i := 18) rfl)
theorem m_1_19 : Cond.instantiable R_Term 7 ∈ wd := wi_1 _ (List.mem_of_getElem? (i := 19) rfl)
theorem m_1_20 : Cond.methodLink R_LazyMachine 25 y_Term_init ∈ wd := wi_1 _ (List.mem_of_getElem? (i := 20) rfl)
theorem m_1_21 : Cond.instanceMethod y_Term_init ∈ wd := wi_1 _ (List.mem_of_getElem? (i := 21) rfl)
theorem m_1_22 : Cond.code y_Term_init b_Term_init 1 none ∈ wd := wi_1 _ (List.mem_of_getElem? (i := 22) rfl)
theorem m_1_23 : Cond.methodLink R_Term 3 objectInit ∈ wd := wi_1 _ (List.mem_of_getElem? (i := 23) rfl)
theorem m_2_0 : Cond.fieldLink R_Term 9 "LazyMachine$Term" "sorts" "[I" ∈ wd := wi_2 _ (List.mem_of_getElem? (i := 0) rfl)
theorem m_2_1 : Cond.fieldLink R_Term 15 "LazyMachine$Term" "xs" "[I" ∈ wd := wi_2 _ (List.mem_of_getElem? (i := 1) rfl)
theorem m_2_2 : Cond.fieldLink R_Term 18 "LazyMachine$Term" "parts" "[I" ∈ wd := wi_2 _ (List.mem_of_getElem? (i := 2) rfl)
theorem m_2_3 : Cond.fieldLink R_Term 21 "LazyMachine$Term" "partsCome" "[I" ∈ wd := wi_2 _ (List.mem_of_getElem? (i := 3) rfl)
theorem m_2_4 : Cond.fieldLink R_Term 24 "LazyMachine$Term" "binders" "[I" ∈ wd := wi_2 _ (List.mem_of_getElem? (i := 4) rfl)
theorem m_2_5 : Cond.fieldLink R_Term 27 "LazyMachine$Term" "open" "[I" ∈ wd := wi_2 _ (List.mem_of_getElem? (i := 5) rfl)
theorem m_2_6 : Cond.fieldLink R_Term 30 "LazyMachine$Term" "size" "I" ∈ wd := wi_2 _ (List.mem_of_getElem? (i := 6) rfl)
theorem m_2_7 : Cond.fieldLink R_LazyMachine 10 "LazyMachine" "heap" "LLazyMachine$Heap;" ∈ wd := wi_2 _ (List.mem_of_getElem? (i := 7) rfl)
theorem m_2_8 : Cond.fieldLink R_LazyMachine 19 "LazyMachine" "pile" "LLazyMachine$Pile;" ∈ wd := wi_2 _ (List.mem_of_getElem? (i := 8) rfl)
theorem m_2_9 : Cond.fieldLink R_LazyMachine 26 "LazyMachine" "waiting" "LLazyMachine$Term;" ∈ wd := wi_2 _ (List.mem_of_getElem? (i := 9) rfl)
theorem m_2_10 : Cond.fieldLink R_LazyMachine 30 "LazyMachine" "term" "LLazyMachine$Term;" ∈ wd := wi_2 _ (List.mem_of_getElem? (i := 10) rfl)
theorem m_2_11 : Cond.fieldLink R_LazyMachine 33 "LazyMachine" "status" "I" ∈ wd := wi_2 _ (List.mem_of_getElem? (i := 11) rfl)
theorem m_2_12 : Cond.fieldLink R_LazyMachine 93 "LazyMachine" "steps" "I" ∈ wd := wi_2 _ (List.mem_of_getElem? (i := 12) rfl)
theorem m_2_13 : Cond.fieldLink R_LazyMachine 122 "LazyMachine" "forced" "I" ∈ wd := wi_2 _ (List.mem_of_getElem? (i := 13) rfl)
theorem m_2_14 : Cond.fieldLink R_LazyMachine 83 "LazyMachine" "back" "Z" ∈ wd := wi_2 _ (List.mem_of_getElem? (i := 14) rfl)
theorem m_2_15 : Cond.fieldLink R_LazyMachine 132 "LazyMachine" "node" "I" ∈ wd := wi_2 _ (List.mem_of_getElem? (i := 15) rfl)
theorem m_2_16 : Cond.fieldLink R_LazyMachine 37 "LazyMachine" "environment" "I" ∈ wd := wi_2 _ (List.mem_of_getElem? (i := 16) rfl)
theorem m_2_17 : Cond.fieldLink R_LazyMachine 98 "LazyMachine" "valueSort" "I" ∈ wd := wi_2 _ (List.mem_of_getElem? (i := 17) rfl)
theorem m_2_18 : Cond.fieldLink R_LazyMachine 40 "LazyMachine" "valueFirst" "I" ∈ wd := wi_2 _ (List.mem_of_getElem? (i := 18) rfl)
theorem m_2_19 : Cond.fieldLink R_LazyMachine 43 "LazyMachine" "valueSecond" "I" ∈ wd := wi_2 _ (List.mem_of_getElem? (i := 19) rfl)
theorem m_2_20 : Cond.methodLink R_Law 47 y_LazyMachine_load ∈ wd := wi_2 _ (List.mem_of_getElem? (i := 20) rfl)
theorem m_2_21 : Cond.instanceMethod y_LazyMachine_load ∈ wd := wi_2 _ (List.mem_of_getElem? (i := 21) rfl)
theorem m_2_22 : Cond.selects R_LazyMachine y_LazyMachine_load y_LazyMachine_load ∈ wd := wi_2 _ (List.mem_of_getElem? (i := 22) rfl)
theorem m_2_23 : Cond.code y_LazyMachine_load b_LazyMachine_load 3 (some .int) ∈ wd := wi_2 _ (List.mem_of_getElem? (i := 23) rfl)
theorem m_3_0 : Cond.methodLink R_LazyMachine 66 y_Term_settle ∈ wd := wi_3 _ (List.mem_of_getElem? (i := 0) rfl)
theorem m_3_1 : Cond.instanceMethod y_Term_settle ∈ wd := wi_3 _ (List.mem_of_getElem? (i := 1) rfl)
theorem m_3_2 : Cond.selects R_Term y_Term_settle y_Term_settle ∈ wd := wi_3 _ (List.mem_of_getElem? (i := 2) rfl)
theorem m_3_3 : Cond.code y_Term_settle b_Term_settle 3 (some .int) ∈ wd := wi_3 _ (List.mem_of_getElem? (i := 3) rfl)
theorem m_3_4 : Cond.methodLink R_Term 34 y_Term_givePart ∈ wd := wi_3 _ (List.mem_of_getElem? (i := 4) rfl)
theorem m_3_5 : Cond.instanceMethod y_Term_givePart ∈ wd := wi_3 _ (List.mem_of_getElem? (i := 5) rfl)
theorem m_3_6 : Cond.code y_Term_givePart b_Term_givePart 4 (some .boolean) ∈ wd := wi_3 _ (List.mem_of_getElem? (i := 6) rfl)
theorem m_3_7 : Cond.methodLink R_Term 41 y_Term_bindsIn ∈ wd := wi_3 _ (List.mem_of_getElem? (i := 7) rfl)
theorem m_3_8 : Cond.static y_Term_bindsIn ∈ wd := wi_3 _ (List.mem_of_getElem? (i := 8) rfl)
theorem m_3_9 : Cond.code y_Term_bindsIn b_Term_bindsIn 2 (some .boolean) ∈ wd := wi_3 _ (List.mem_of_getElem? (i := 9) rfl)
theorem m_3_10 : Cond.methodLink R_LazyMachine 69 y_Term_clear ∈ wd := wi_3 _ (List.mem_of_getElem? (i := 10) rfl)
theorem m_3_11 : Cond.instanceMethod y_Term_clear ∈ wd := wi_3 _ (List.mem_of_getElem? (i := 11) rfl)
theorem m_3_12 : Cond.selects R_Term y_Term_clear y_Term_clear ∈ wd := wi_3 _ (List.mem_of_getElem? (i := 12) rfl)
theorem m_3_13 : Cond.code y_Term_clear b_Term_clear 1 none ∈ wd := wi_3 _ (List.mem_of_getElem? (i := 13) rfl)
theorem m_3_14 : Cond.methodLink R_LazyMachine 72 y_LazyMachine_begin ∈ wd := wi_3 _ (List.mem_of_getElem? (i := 14) rfl)
theorem m_3_15 : Cond.instanceMethod y_LazyMachine_begin ∈ wd := wi_3 _ (List.mem_of_getElem? (i := 15) rfl)
theorem m_3_16 : Cond.code y_LazyMachine_begin b_LazyMachine_begin 2 none ∈ wd := wi_3 _ (List.mem_of_getElem? (i := 16) rfl)
theorem m_3_17 : Cond.methodLink R_LazyMachine 138 y_Heap_empty ∈ wd := wi_3 _ (List.mem_of_getElem? (i := 17) rfl)
theorem m_3_18 : Cond.instanceMethod y_Heap_empty ∈ wd := wi_3 _ (List.mem_of_getElem? (i := 18) rfl)
theorem m_3_19 : Cond.selects R_Heap y_Heap_empty y_Heap_empty ∈ wd := wi_3 _ (List.mem_of_getElem? (i := 19) rfl)
theorem m_3_20 : Cond.code y_Heap_empty b_Heap_empty 1 none ∈ wd := wi_3 _ (List.mem_of_getElem? (i := 20) rfl)
theorem m_3_21 : Cond.methodLink R_Heap 30 y_Heap_beginMarks ∈ wd := wi_3 _ (List.mem_of_getElem? (i := 21) rfl)
theorem m_3_22 : Cond.instanceMethod y_Heap_beginMarks ∈ wd := wi_3 _ (List.mem_of_getElem? (i := 22) rfl)
theorem m_3_23 : Cond.selects R_Heap y_Heap_beginMarks y_Heap_beginMarks ∈ wd := wi_3 _ (List.mem_of_getElem? (i := 23) rfl)
theorem m_4_0 : Cond.code y_Heap_beginMarks b_Heap_beginMarks 1 none ∈ wd := wi_4 _ (List.mem_of_getElem? (i := 0) rfl)
theorem m_4_1 : Cond.methodLink R_Heap 33 y_Heap_freeUnreached ∈ wd := wi_4 _ (List.mem_of_getElem? (i := 1) rfl)
theorem m_4_2 : Cond.instanceMethod y_Heap_freeUnreached ∈ wd := wi_4 _ (List.mem_of_getElem? (i := 2) rfl)
theorem m_4_3 : Cond.selects R_Heap y_Heap_freeUnreached y_Heap_freeUnreached ∈ wd := wi_4 _ (List.mem_of_getElem? (i := 3) rfl)
theorem m_4_4 : Cond.code y_Heap_freeUnreached b_Heap_freeUnreached 2 none ∈ wd := wi_4 _ (List.mem_of_getElem? (i := 4) rfl)
theorem m_4_5 : Cond.methodLink R_LazyMachine 141 y_Pile_empty ∈ wd := wi_4 _ (List.mem_of_getElem? (i := 5) rfl)
theorem m_4_6 : Cond.instanceMethod y_Pile_empty ∈ wd := wi_4 _ (List.mem_of_getElem? (i := 6) rfl)
theorem m_4_7 : Cond.selects R_Pile y_Pile_empty y_Pile_empty ∈ wd := wi_4 _ (List.mem_of_getElem? (i := 7) rfl)
theorem m_4_8 : Cond.code y_Pile_empty b_Pile_empty 1 none ∈ wd := wi_4 _ (List.mem_of_getElem? (i := 8) rfl)
theorem m_4_9 : Cond.methodLink R_LazyMachine 142 y_LazyMachine_enter ∈ wd := wi_4 _ (List.mem_of_getElem? (i := 9) rfl)
theorem m_4_10 : Cond.instanceMethod y_LazyMachine_enter ∈ wd := wi_4 _ (List.mem_of_getElem? (i := 10) rfl)
theorem m_4_11 : Cond.code y_LazyMachine_enter b_LazyMachine_enter 3 none ∈ wd := wi_4 _ (List.mem_of_getElem? (i := 11) rfl)
theorem m_4_12 : Cond.methodLink R_Law 68 y_LazyMachine_count ∈ wd := wi_4 _ (List.mem_of_getElem? (i := 12) rfl)
theorem m_4_13 : Cond.instanceMethod y_LazyMachine_count ∈ wd := wi_4 _ (List.mem_of_getElem? (i := 13) rfl)
theorem m_4_14 : Cond.selects R_LazyMachine y_LazyMachine_count y_LazyMachine_count ∈ wd := wi_4 _ (List.mem_of_getElem? (i := 14) rfl)
theorem m_4_15 : Cond.code y_LazyMachine_count b_LazyMachine_count 2 (some .int) ∈ wd := wi_4 _ (List.mem_of_getElem? (i := 15) rfl)
theorem m_4_16 : Cond.methodLink R_LazyMachine 62 y_Term_size ∈ wd := wi_4 _ (List.mem_of_getElem? (i := 16) rfl)
theorem m_4_17 : Cond.instanceMethod y_Term_size ∈ wd := wi_4 _ (List.mem_of_getElem? (i := 17) rfl)
theorem m_4_18 : Cond.selects R_Term y_Term_size y_Term_size ∈ wd := wi_4 _ (List.mem_of_getElem? (i := 18) rfl)
theorem m_4_19 : Cond.code y_Term_size b_Term_size 1 (some .int) ∈ wd := wi_4 _ (List.mem_of_getElem? (i := 19) rfl)
theorem m_4_20 : Cond.methodLink R_LazyMachine 125 y_Pile_size ∈ wd := wi_4 _ (List.mem_of_getElem? (i := 20) rfl)
theorem m_4_21 : Cond.instanceMethod y_Pile_size ∈ wd := wi_4 _ (List.mem_of_getElem? (i := 21) rfl)
theorem m_4_22 : Cond.selects R_Pile y_Pile_size y_Pile_size ∈ wd := wi_4 _ (List.mem_of_getElem? (i := 22) rfl)
theorem m_4_23 : Cond.code y_Pile_size b_Pile_size 1 (some .int) ∈ wd := wi_4 _ (List.mem_of_getElem? (i := 23) rfl)
theorem m_5_0 : Cond.methodLink R_LazyMachine 126 y_LazyMachine_markRoots ∈ wd := wi_5 _ (List.mem_of_getElem? (i := 0) rfl)
theorem m_5_1 : Cond.instanceMethod y_LazyMachine_markRoots ∈ wd := wi_5 _ (List.mem_of_getElem? (i := 1) rfl)
theorem m_5_2 : Cond.code y_LazyMachine_markRoots b_LazyMachine_markRoots 1 none ∈ wd := wi_5 _ (List.mem_of_getElem? (i := 2) rfl)
theorem m_5_3 : Cond.methodLink R_LazyMachine 239 y_Heap_beginMarks ∈ wd := wi_5 _ (List.mem_of_getElem? (i := 3) rfl)
theorem m_5_4 : Cond.methodLink R_LazyMachine 242 y_Heap_reachFrom ∈ wd := wi_5 _ (List.mem_of_getElem? (i := 4) rfl)
theorem m_5_5 : Cond.instanceMethod y_Heap_reachFrom ∈ wd := wi_5 _ (List.mem_of_getElem? (i := 5) rfl)
theorem m_5_6 : Cond.selects R_Heap y_Heap_reachFrom y_Heap_reachFrom ∈ wd := wi_5 _ (List.mem_of_getElem? (i := 6) rfl)
theorem m_5_7 : Cond.code y_Heap_reachFrom b_Heap_reachFrom 4 none ∈ wd := wi_5 _ (List.mem_of_getElem? (i := 7) rfl)
theorem m_5_8 : Cond.methodLink R_Heap 54 y_Heap_reach ∈ wd := wi_5 _ (List.mem_of_getElem? (i := 8) rfl)
theorem m_5_9 : Cond.instanceMethod y_Heap_reach ∈ wd := wi_5 _ (List.mem_of_getElem? (i := 9) rfl)
theorem m_5_10 : Cond.selects R_Heap y_Heap_reach y_Heap_reach ∈ wd := wi_5 _ (List.mem_of_getElem? (i := 10) rfl)
theorem m_5_11 : Cond.code y_Heap_reach b_Heap_reach 2 none ∈ wd := wi_5 _ (List.mem_of_getElem? (i := 11) rfl)
theorem m_5_12 : Cond.methodLink R_LazyMachine 245 y_Heap_reach ∈ wd := wi_5 _ (List.mem_of_getElem? (i := 12) rfl)
theorem m_5_13 : Cond.methodLink R_LazyMachine 248 y_Pile_reachAll ∈ wd := wi_5 _ (List.mem_of_getElem? (i := 13) rfl)
theorem m_5_14 : Cond.instanceMethod y_Pile_reachAll ∈ wd := wi_5 _ (List.mem_of_getElem? (i := 14) rfl)
theorem m_5_15 : Cond.selects R_Pile y_Pile_reachAll y_Pile_reachAll ∈ wd := wi_5 _ (List.mem_of_getElem? (i := 15) rfl)
theorem m_5_16 : Cond.code y_Pile_reachAll b_Pile_reachAll 3 none ∈ wd := wi_5 _ (List.mem_of_getElem? (i := 16) rfl)
theorem m_5_17 : Cond.methodLink R_Pile 38 y_Heap_reach ∈ wd := wi_5 _ (List.mem_of_getElem? (i := 17) rfl)
theorem m_5_18 : Cond.methodLink R_LazyMachine 129 y_Heap_spreadMarks ∈ wd := wi_5 _ (List.mem_of_getElem? (i := 18) rfl)
theorem m_5_19 : Cond.instanceMethod y_Heap_spreadMarks ∈ wd := wi_5 _ (List.mem_of_getElem? (i := 19) rfl)
theorem m_5_20 : Cond.selects R_Heap y_Heap_spreadMarks y_Heap_spreadMarks ∈ wd := wi_5 _ (List.mem_of_getElem? (i := 20) rfl)
theorem m_5_21 : Cond.code y_Heap_spreadMarks b_Heap_spreadMarks 3 (some .int) ∈ wd := wi_5 _ (List.mem_of_getElem? (i := 21) rfl)
theorem m_5_22 : Cond.methodLink R_Heap 58 y_Heap_reachFrom ∈ wd := wi_5 _ (List.mem_of_getElem? (i := 22) rfl)
theorem m_5_23 : Cond.methodLink R_LazyMachine 135 y_Pile_most ∈ wd := wi_5 _ (List.mem_of_getElem? (i := 23) rfl)
theorem m_6_0 : Cond.instanceMethod y_Pile_most ∈ wd := wi_6 _ (List.mem_of_getElem? (i := 0) rfl)
theorem m_6_1 : Cond.selects R_Pile y_Pile_most y_Pile_most ∈ wd := wi_6 _ (List.mem_of_getElem? (i := 1) rfl)
theorem m_6_2 : Cond.code y_Pile_most b_Pile_most 1 (some .int) ∈ wd := wi_6 _ (List.mem_of_getElem? (i := 2) rfl)
theorem m_6_3 : Cond.methodLink R_Law 37 y_Law_put ∈ wd := wi_6 _ (List.mem_of_getElem? (i := 3) rfl)
theorem m_6_4 : Cond.static y_Law_put ∈ wd := wi_6 _ (List.mem_of_getElem? (i := 4) rfl)
theorem m_6_5 : Cond.classLink R_Law 13 "java/lang/IllegalArgumentException" ∈ wd := wi_6 _ (List.mem_of_getElem? (i := 5) rfl)
theorem m_6_6 : Cond.methodLink R_Law 7 y_LazyMachine_put ∈ wd := wi_6 _ (List.mem_of_getElem? (i := 6) rfl)
theorem m_6_7 : Cond.instanceMethod y_LazyMachine_put ∈ wd := wi_6 _ (List.mem_of_getElem? (i := 7) rfl)
theorem m_6_8 : Cond.selects R_LazyMachine y_LazyMachine_put y_LazyMachine_put ∈ wd := wi_6 _ (List.mem_of_getElem? (i := 8) rfl)
theorem m_6_9 : Cond.code y_LazyMachine_put b_LazyMachine_put 3 (some .int) ∈ wd := wi_6 _ (List.mem_of_getElem? (i := 9) rfl)
theorem m_6_10 : Cond.classLink R_LazyMachine 46 "java/lang/IllegalArgumentException" ∈ wd := wi_6 _ (List.mem_of_getElem? (i := 10) rfl)
theorem m_6_11 : Cond.arrayClass .byte ∈ wd := wi_6 _ (List.mem_of_getElem? (i := 11) rfl)
theorem m_6_12 : Cond.methodLink R_LazyMachine 53 y_LazyMachine_mayBear ∈ wd := wi_6 _ (List.mem_of_getElem? (i := 12) rfl)
theorem m_6_13 : Cond.static y_LazyMachine_mayBear ∈ wd := wi_6 _ (List.mem_of_getElem? (i := 13) rfl)
theorem m_6_14 : Cond.code y_LazyMachine_mayBear b_LazyMachine_mayBear 2 (some .boolean) ∈ wd := wi_6 _ (List.mem_of_getElem? (i := 14) rfl)
theorem m_6_15 : Cond.methodLink R_LazyMachine 59 y_Term_add ∈ wd := wi_6 _ (List.mem_of_getElem? (i := 15) rfl)
theorem m_6_16 : Cond.instanceMethod y_Term_add ∈ wd := wi_6 _ (List.mem_of_getElem? (i := 16) rfl)
theorem m_6_17 : Cond.selects R_Term y_Term_add y_Term_add ∈ wd := wi_6 _ (List.mem_of_getElem? (i := 17) rfl)
theorem m_6_18 : Cond.code y_Term_add b_Term_add 3 (some .boolean) ∈ wd := wi_6 _ (List.mem_of_getElem? (i := 18) rfl)
theorem m_6_19 : Cond.methodLink R_Law 51 y_Law_restart ∈ wd := wi_6 _ (List.mem_of_getElem? (i := 19) rfl)
theorem m_6_20 : Cond.static y_Law_restart ∈ wd := wi_6 _ (List.mem_of_getElem? (i := 20) rfl)
theorem m_6_21 : Cond.classLink R_Law 18 "java/lang/IllegalStateException" ∈ wd := wi_6 _ (List.mem_of_getElem? (i := 21) rfl)
theorem m_6_22 : Cond.methodLink R_Law 15 y_LazyMachine_restart ∈ wd := wi_6 _ (List.mem_of_getElem? (i := 22) rfl)
theorem m_6_23 : Cond.instanceMethod y_LazyMachine_restart ∈ wd := wi_6 _ (List.mem_of_getElem? (i := 23) rfl)
theorem m_7_0 : Cond.selects R_LazyMachine y_LazyMachine_restart y_LazyMachine_restart ∈ wd := wi_7 _ (List.mem_of_getElem? (i := 0) rfl)
theorem m_7_1 : Cond.code y_LazyMachine_restart b_LazyMachine_restart 1 none ∈ wd := wi_7 _ (List.mem_of_getElem? (i := 1) rfl)
theorem m_7_2 : Cond.classLink R_LazyMachine 76 "java/lang/IllegalStateException" ∈ wd := wi_7 _ (List.mem_of_getElem? (i := 2) rfl)
theorem m_7_3 : Cond.methodLink R_Law 55 y_Law_run ∈ wd := wi_7 _ (List.mem_of_getElem? (i := 3) rfl)
theorem m_7_4 : Cond.static y_Law_run ∈ wd := wi_7 _ (List.mem_of_getElem? (i := 4) rfl)
theorem m_7_5 : Cond.methodLink R_Law 20 y_LazyMachine_run ∈ wd := wi_7 _ (List.mem_of_getElem? (i := 5) rfl)
theorem m_7_6 : Cond.instanceMethod y_LazyMachine_run ∈ wd := wi_7 _ (List.mem_of_getElem? (i := 6) rfl)
theorem m_7_7 : Cond.selects R_LazyMachine y_LazyMachine_run y_LazyMachine_run ∈ wd := wi_7 _ (List.mem_of_getElem? (i := 7) rfl)
theorem m_7_8 : Cond.code y_LazyMachine_run b_LazyMachine_run 3 (some .int) ∈ wd := wi_7 _ (List.mem_of_getElem? (i := 8) rfl)
theorem m_7_9 : Cond.methodLink R_LazyMachine 87 y_LazyMachine_stepBack ∈ wd := wi_7 _ (List.mem_of_getElem? (i := 9) rfl)
theorem m_7_10 : Cond.instanceMethod y_LazyMachine_stepBack ∈ wd := wi_7 _ (List.mem_of_getElem? (i := 10) rfl)
theorem m_7_11 : Cond.code y_LazyMachine_stepBack b_LazyMachine_stepBack 2 (some .int) ∈ wd := wi_7 _ (List.mem_of_getElem? (i := 11) rfl)
theorem m_7_12 : Cond.methodLink R_LazyMachine 190 y_Pile_topFirst ∈ wd := wi_7 _ (List.mem_of_getElem? (i := 12) rfl)
theorem m_7_13 : Cond.instanceMethod y_Pile_topFirst ∈ wd := wi_7 _ (List.mem_of_getElem? (i := 13) rfl)
theorem m_7_14 : Cond.selects R_Pile y_Pile_topFirst y_Pile_topFirst ∈ wd := wi_7 _ (List.mem_of_getElem? (i := 14) rfl)
theorem m_7_15 : Cond.code y_Pile_topFirst b_Pile_topFirst 1 (some .int) ∈ wd := wi_7 _ (List.mem_of_getElem? (i := 15) rfl)
theorem m_7_16 : Cond.methodLink R_LazyMachine 193 y_Pile_topSort ∈ wd := wi_7 _ (List.mem_of_getElem? (i := 16) rfl)
theorem m_7_17 : Cond.instanceMethod y_Pile_topSort ∈ wd := wi_7 _ (List.mem_of_getElem? (i := 17) rfl)
theorem m_7_18 : Cond.selects R_Pile y_Pile_topSort y_Pile_topSort ∈ wd := wi_7 _ (List.mem_of_getElem? (i := 18) rfl)
theorem m_7_19 : Cond.code y_Pile_topSort b_Pile_topSort 1 (some .int) ∈ wd := wi_7 _ (List.mem_of_getElem? (i := 19) rfl)
theorem m_7_20 : Cond.methodLink R_LazyMachine 196 y_Pile_drop ∈ wd := wi_7 _ (List.mem_of_getElem? (i := 20) rfl)
theorem m_7_21 : Cond.instanceMethod y_Pile_drop ∈ wd := wi_7 _ (List.mem_of_getElem? (i := 21) rfl)
theorem m_7_22 : Cond.selects R_Pile y_Pile_drop y_Pile_drop ∈ wd := wi_7 _ (List.mem_of_getElem? (i := 22) rfl)
theorem m_7_23 : Cond.code y_Pile_drop b_Pile_drop 1 none ∈ wd := wi_7 _ (List.mem_of_getElem? (i := 23) rfl)
theorem m_8_0 : Cond.methodLink R_LazyMachine 199 y_Heap_become ∈ wd := wi_8 _ (List.mem_of_getElem? (i := 0) rfl)
theorem m_8_1 : Cond.instanceMethod y_Heap_become ∈ wd := wi_8 _ (List.mem_of_getElem? (i := 1) rfl)
theorem m_8_2 : Cond.selects R_Heap y_Heap_become y_Heap_become ∈ wd := wi_8 _ (List.mem_of_getElem? (i := 2) rfl)
theorem m_8_3 : Cond.code y_Heap_become b_Heap_become 5 none ∈ wd := wi_8 _ (List.mem_of_getElem? (i := 3) rfl)
theorem m_8_4 : Cond.methodLink R_LazyMachine 203 y_LazyMachine_stepArgument ∈ wd := wi_8 _ (List.mem_of_getElem? (i := 4) rfl)
theorem m_8_5 : Cond.instanceMethod y_LazyMachine_stepArgument ∈ wd := wi_8 _ (List.mem_of_getElem? (i := 5) rfl)
theorem m_8_6 : Cond.code y_LazyMachine_stepArgument b_LazyMachine_stepArgument 2 (some .int) ∈ wd := wi_8 _ (List.mem_of_getElem? (i := 6) rfl)
theorem m_8_7 : Cond.methodLink R_LazyMachine 111 y_LazyMachine_hasRoomFor ∈ wd := wi_8 _ (List.mem_of_getElem? (i := 7) rfl)
theorem m_8_8 : Cond.instanceMethod y_LazyMachine_hasRoomFor ∈ wd := wi_8 _ (List.mem_of_getElem? (i := 8) rfl)
theorem m_8_9 : Cond.code y_LazyMachine_hasRoomFor b_LazyMachine_hasRoomFor 2 (some .boolean) ∈ wd := wi_8 _ (List.mem_of_getElem? (i := 9) rfl)
theorem m_8_10 : Cond.methodLink R_LazyMachine 233 y_Heap_free ∈ wd := wi_8 _ (List.mem_of_getElem? (i := 10) rfl)
theorem m_8_11 : Cond.instanceMethod y_Heap_free ∈ wd := wi_8 _ (List.mem_of_getElem? (i := 11) rfl)
theorem m_8_12 : Cond.selects R_Heap y_Heap_free y_Heap_free ∈ wd := wi_8 _ (List.mem_of_getElem? (i := 12) rfl)
theorem m_8_13 : Cond.code y_Heap_free b_Heap_free 1 (some .int) ∈ wd := wi_8 _ (List.mem_of_getElem? (i := 13) rfl)
theorem m_8_14 : Cond.methodLink R_LazyMachine 236 y_Heap_freeUnreached ∈ wd := wi_8 _ (List.mem_of_getElem? (i := 14) rfl)
theorem m_8_15 : Cond.methodLink R_LazyMachine 119 y_LazyMachine_enterFunction ∈ wd := wi_8 _ (List.mem_of_getElem? (i := 15) rfl)
theorem m_8_16 : Cond.instanceMethod y_LazyMachine_enterFunction ∈ wd := wi_8 _ (List.mem_of_getElem? (i := 16) rfl)
theorem m_8_17 : Cond.code y_LazyMachine_enterFunction b_LazyMachine_enterFunction 2 none ∈ wd := wi_8 _ (List.mem_of_getElem? (i := 17) rfl)
theorem m_8_18 : Cond.methodLink R_LazyMachine 181 y_Term_part ∈ wd := wi_8 _ (List.mem_of_getElem? (i := 18) rfl)
theorem m_8_19 : Cond.instanceMethod y_Term_part ∈ wd := wi_8 _ (List.mem_of_getElem? (i := 19) rfl)
theorem m_8_20 : Cond.selects R_Term y_Term_part y_Term_part ∈ wd := wi_8 _ (List.mem_of_getElem? (i := 20) rfl)
theorem m_8_21 : Cond.code y_Term_part b_Term_part 3 (some .int) ∈ wd := wi_8 _ (List.mem_of_getElem? (i := 21) rfl)
theorem m_8_22 : Cond.methodLink R_LazyMachine 115 y_Heap_take ∈ wd := wi_8 _ (List.mem_of_getElem? (i := 22) rfl)
theorem m_8_23 : Cond.instanceMethod y_Heap_take ∈ wd := wi_8 _ (List.mem_of_getElem? (i := 23) rfl)
theorem m_9_0 : Cond.selects R_Heap y_Heap_take y_Heap_take ∈ wd := wi_9 _ (List.mem_of_getElem? (i := 0) rfl)
theorem m_9_1 : Cond.code y_Heap_take b_Heap_take 5 (some .int) ∈ wd := wi_9 _ (List.mem_of_getElem? (i := 1) rfl)
theorem m_9_2 : Cond.methodLink R_Heap 40 y_Heap_become ∈ wd := wi_9 _ (List.mem_of_getElem? (i := 2) rfl)
theorem m_9_3 : Cond.methodLink R_LazyMachine 206 y_Pile_topSecond ∈ wd := wi_9 _ (List.mem_of_getElem? (i := 3) rfl)
theorem m_9_4 : Cond.instanceMethod y_Pile_topSecond ∈ wd := wi_9 _ (List.mem_of_getElem? (i := 4) rfl)
theorem m_9_5 : Cond.selects R_Pile y_Pile_topSecond y_Pile_topSecond ∈ wd := wi_9 _ (List.mem_of_getElem? (i := 5) rfl)
theorem m_9_6 : Cond.code y_Pile_topSecond b_Pile_topSecond 1 (some .int) ∈ wd := wi_9 _ (List.mem_of_getElem? (i := 6) rfl)
theorem m_9_7 : Cond.methodLink R_LazyMachine 209 y_LazyMachine_stepLeft ∈ wd := wi_9 _ (List.mem_of_getElem? (i := 7) rfl)
theorem m_9_8 : Cond.instanceMethod y_LazyMachine_stepLeft ∈ wd := wi_9 _ (List.mem_of_getElem? (i := 8) rfl)
theorem m_9_9 : Cond.code y_LazyMachine_stepLeft b_LazyMachine_stepLeft 3 (some .int) ∈ wd := wi_9 _ (List.mem_of_getElem? (i := 9) rfl)
theorem m_9_10 : Cond.methodLink R_LazyMachine 178 y_Pile_add ∈ wd := wi_9 _ (List.mem_of_getElem? (i := 10) rfl)
theorem m_9_11 : Cond.instanceMethod y_Pile_add ∈ wd := wi_9 _ (List.mem_of_getElem? (i := 11) rfl)
theorem m_9_12 : Cond.selects R_Pile y_Pile_add y_Pile_add ∈ wd := wi_9 _ (List.mem_of_getElem? (i := 12) rfl)
theorem m_9_13 : Cond.code y_Pile_add b_Pile_add 4 none ∈ wd := wi_9 _ (List.mem_of_getElem? (i := 13) rfl)
theorem m_9_14 : Cond.methodLink R_Pile 28 y_Pile_isFull ∈ wd := wi_9 _ (List.mem_of_getElem? (i := 14) rfl)
theorem m_9_15 : Cond.instanceMethod y_Pile_isFull ∈ wd := wi_9 _ (List.mem_of_getElem? (i := 15) rfl)
theorem m_9_16 : Cond.selects R_Pile y_Pile_isFull y_Pile_isFull ∈ wd := wi_9 _ (List.mem_of_getElem? (i := 16) rfl)
theorem m_9_17 : Cond.code y_Pile_isFull b_Pile_isFull 1 (some .boolean) ∈ wd := wi_9 _ (List.mem_of_getElem? (i := 17) rfl)
theorem m_9_18 : Cond.methodLink R_Pile 32 Lib.Math.max.name ∈ wd := wi_9 _ (List.mem_of_getElem? (i := 18) rfl)
theorem m_9_19 : Cond.static Lib.Math.max.name ∈ wd := wi_9 _ (List.mem_of_getElem? (i := 19) rfl)
theorem m_9_20 : Cond.code Lib.Math.max.name Lib.Math.max.code 2 (some .int) ∈ wd := wi_9 _ (List.mem_of_getElem? (i := 20) rfl)
theorem m_9_21 : Cond.methodLink R_LazyMachine 212 y_LazyMachine_stepRight ∈ wd := wi_9 _ (List.mem_of_getElem? (i := 21) rfl)
theorem m_9_22 : Cond.instanceMethod y_LazyMachine_stepRight ∈ wd := wi_9 _ (List.mem_of_getElem? (i := 22) rfl)
theorem m_9_23 : Cond.code y_LazyMachine_stepRight b_LazyMachine_stepRight 3 (some .int) ∈ wd := wi_9 _ (List.mem_of_getElem? (i := 23) rfl)
theorem m_10_0 : Cond.methodLink R_LazyMachine 146 y_Term_sort ∈ wd := wi_10 _ (List.mem_of_getElem? (i := 0) rfl)
theorem m_10_1 : Cond.instanceMethod y_Term_sort ∈ wd := wi_10 _ (List.mem_of_getElem? (i := 1) rfl)
theorem m_10_2 : Cond.selects R_Term y_Term_sort y_Term_sort ∈ wd := wi_10 _ (List.mem_of_getElem? (i := 2) rfl)
theorem m_10_3 : Cond.code y_Term_sort b_Term_sort 2 (some .int) ∈ wd := wi_10 _ (List.mem_of_getElem? (i := 3) rfl)
theorem m_10_4 : Cond.methodLink R_LazyMachine 221 y_LazyMachine_reckon ∈ wd := wi_10 _ (List.mem_of_getElem? (i := 4) rfl)
theorem m_10_5 : Cond.static y_LazyMachine_reckon ∈ wd := wi_10 _ (List.mem_of_getElem? (i := 5) rfl)
theorem m_10_6 : Cond.code y_LazyMachine_reckon b_LazyMachine_reckon 3 (some .int) ∈ wd := wi_10 _ (List.mem_of_getElem? (i := 6) rfl)
theorem m_10_7 : Cond.methodLink R_LazyMachine 156 y_LazyMachine_backWith ∈ wd := wi_10 _ (List.mem_of_getElem? (i := 7) rfl)
theorem m_10_8 : Cond.instanceMethod y_LazyMachine_backWith ∈ wd := wi_10 _ (List.mem_of_getElem? (i := 8) rfl)
theorem m_10_9 : Cond.code y_LazyMachine_backWith b_LazyMachine_backWith 4 (some .int) ∈ wd := wi_10 _ (List.mem_of_getElem? (i := 9) rfl)
theorem m_10_10 : Cond.methodLink R_LazyMachine 215 y_LazyMachine_stepTest ∈ wd := wi_10 _ (List.mem_of_getElem? (i := 10) rfl)
theorem m_10_11 : Cond.instanceMethod y_LazyMachine_stepTest ∈ wd := wi_10 _ (List.mem_of_getElem? (i := 11) rfl)
theorem m_10_12 : Cond.code y_LazyMachine_stepTest b_LazyMachine_stepTest 3 (some .int) ∈ wd := wi_10 _ (List.mem_of_getElem? (i := 12) rfl)
theorem m_10_13 : Cond.methodLink R_LazyMachine 218 y_LazyMachine_stepPart ∈ wd := wi_10 _ (List.mem_of_getElem? (i := 13) rfl)
theorem m_10_14 : Cond.instanceMethod y_LazyMachine_stepPart ∈ wd := wi_10 _ (List.mem_of_getElem? (i := 14) rfl)
theorem m_10_15 : Cond.code y_LazyMachine_stepPart b_LazyMachine_stepPart 3 (some .int) ∈ wd := wi_10 _ (List.mem_of_getElem? (i := 15) rfl)
theorem m_10_16 : Cond.methodLink R_LazyMachine 224 y_Heap_state ∈ wd := wi_10 _ (List.mem_of_getElem? (i := 16) rfl)
theorem m_10_17 : Cond.instanceMethod y_Heap_state ∈ wd := wi_10 _ (List.mem_of_getElem? (i := 17) rfl)
theorem m_10_18 : Cond.selects R_Heap y_Heap_state y_Heap_state ∈ wd := wi_10 _ (List.mem_of_getElem? (i := 18) rfl)
theorem m_10_19 : Cond.code y_Heap_state b_Heap_state 2 (some .int) ∈ wd := wi_10 _ (List.mem_of_getElem? (i := 19) rfl)
theorem m_10_20 : Cond.methodLink R_LazyMachine 105 y_LazyMachine_ask ∈ wd := wi_10 _ (List.mem_of_getElem? (i := 20) rfl)
theorem m_10_21 : Cond.instanceMethod y_LazyMachine_ask ∈ wd := wi_10 _ (List.mem_of_getElem? (i := 21) rfl)
theorem m_10_22 : Cond.code y_LazyMachine_ask b_LazyMachine_ask 5 (some .int) ∈ wd := wi_10 _ (List.mem_of_getElem? (i := 22) rfl)
theorem m_10_23 : Cond.methodLink R_LazyMachine 227 y_Heap_first ∈ wd := wi_10 _ (List.mem_of_getElem? (i := 23) rfl)
theorem m_11_0 : Cond.instanceMethod y_Heap_first ∈ wd := wi_11 _ (List.mem_of_getElem? (i := 0) rfl)
theorem m_11_1 : Cond.selects R_Heap y_Heap_first y_Heap_first ∈ wd := wi_11 _ (List.mem_of_getElem? (i := 1) rfl)
theorem m_11_2 : Cond.code y_Heap_first b_Heap_first 2 (some .int) ∈ wd := wi_11 _ (List.mem_of_getElem? (i := 2) rfl)
theorem m_11_3 : Cond.methodLink R_LazyMachine 230 y_Heap_second ∈ wd := wi_11 _ (List.mem_of_getElem? (i := 3) rfl)
theorem m_11_4 : Cond.instanceMethod y_Heap_second ∈ wd := wi_11 _ (List.mem_of_getElem? (i := 4) rfl)
theorem m_11_5 : Cond.selects R_Heap y_Heap_second y_Heap_second ∈ wd := wi_11 _ (List.mem_of_getElem? (i := 5) rfl)
theorem m_11_6 : Cond.code y_Heap_second b_Heap_second 2 (some .int) ∈ wd := wi_11 _ (List.mem_of_getElem? (i := 6) rfl)
theorem m_11_7 : Cond.methodLink R_LazyMachine 174 y_Pile_isFull ∈ wd := wi_11 _ (List.mem_of_getElem? (i := 7) rfl)
theorem m_11_8 : Cond.methodLink R_LazyMachine 90 y_LazyMachine_stepAt ∈ wd := wi_11 _ (List.mem_of_getElem? (i := 8) rfl)
theorem m_11_9 : Cond.instanceMethod y_LazyMachine_stepAt ∈ wd := wi_11 _ (List.mem_of_getElem? (i := 9) rfl)
theorem m_11_10 : Cond.code y_LazyMachine_stepAt b_LazyMachine_stepAt 1 (some .int) ∈ wd := wi_11 _ (List.mem_of_getElem? (i := 10) rfl)
theorem m_11_11 : Cond.methodLink R_LazyMachine 149 y_Term_x ∈ wd := wi_11 _ (List.mem_of_getElem? (i := 11) rfl)
theorem m_11_12 : Cond.instanceMethod y_Term_x ∈ wd := wi_11 _ (List.mem_of_getElem? (i := 12) rfl)
theorem m_11_13 : Cond.selects R_Term y_Term_x y_Term_x ∈ wd := wi_11 _ (List.mem_of_getElem? (i := 13) rfl)
theorem m_11_14 : Cond.code y_Term_x b_Term_x 2 (some .int) ∈ wd := wi_11 _ (List.mem_of_getElem? (i := 14) rfl)
theorem m_11_15 : Cond.methodLink R_LazyMachine 152 y_Heap_boundTo ∈ wd := wi_11 _ (List.mem_of_getElem? (i := 15) rfl)
theorem m_11_16 : Cond.instanceMethod y_Heap_boundTo ∈ wd := wi_11 _ (List.mem_of_getElem? (i := 16) rfl)
theorem m_11_17 : Cond.selects R_Heap y_Heap_boundTo y_Heap_boundTo ∈ wd := wi_11 _ (List.mem_of_getElem? (i := 17) rfl)
theorem m_11_18 : Cond.code y_Heap_boundTo b_Heap_boundTo 5 (some .int) ∈ wd := wi_11 _ (List.mem_of_getElem? (i := 18) rfl)
theorem m_11_19 : Cond.methodLink R_Heap 44 y_Heap_first ∈ wd := wi_11 _ (List.mem_of_getElem? (i := 19) rfl)
theorem m_11_20 : Cond.methodLink R_LazyMachine 159 y_LazyMachine_stepApply ∈ wd := wi_11 _ (List.mem_of_getElem? (i := 20) rfl)
theorem m_11_21 : Cond.instanceMethod y_LazyMachine_stepApply ∈ wd := wi_11 _ (List.mem_of_getElem? (i := 21) rfl)
theorem m_11_22 : Cond.code y_LazyMachine_stepApply b_LazyMachine_stepApply 2 (some .int) ∈ wd := wi_11 _ (List.mem_of_getElem? (i := 22) rfl)
theorem m_11_23 : Cond.methodLink R_LazyMachine 184 y_LazyMachine_cellsFor ∈ wd := wi_11 _ (List.mem_of_getElem? (i := 23) rfl)
theorem m_12_0 : Cond.instanceMethod y_LazyMachine_cellsFor ∈ wd := wi_12 _ (List.mem_of_getElem? (i := 0) rfl)
theorem m_12_1 : Cond.code y_LazyMachine_cellsFor b_LazyMachine_cellsFor 2 (some .int) ∈ wd := wi_12 _ (List.mem_of_getElem? (i := 1) rfl)
theorem m_12_2 : Cond.methodLink R_LazyMachine 187 y_LazyMachine_thunkFor ∈ wd := wi_12 _ (List.mem_of_getElem? (i := 2) rfl)
theorem m_12_3 : Cond.instanceMethod y_LazyMachine_thunkFor ∈ wd := wi_12 _ (List.mem_of_getElem? (i := 3) rfl)
theorem m_12_4 : Cond.code y_LazyMachine_thunkFor b_LazyMachine_thunkFor 2 (some .int) ∈ wd := wi_12 _ (List.mem_of_getElem? (i := 4) rfl)
theorem m_12_5 : Cond.methodLink R_LazyMachine 162 y_LazyMachine_stepUnder ∈ wd := wi_12 _ (List.mem_of_getElem? (i := 5) rfl)
theorem m_12_6 : Cond.instanceMethod y_LazyMachine_stepUnder ∈ wd := wi_12 _ (List.mem_of_getElem? (i := 6) rfl)
theorem m_12_7 : Cond.code y_LazyMachine_stepUnder b_LazyMachine_stepUnder 4 (some .int) ∈ wd := wi_12 _ (List.mem_of_getElem? (i := 7) rfl)
theorem m_12_8 : Cond.methodLink R_LazyMachine 165 y_LazyMachine_stepFix ∈ wd := wi_12 _ (List.mem_of_getElem? (i := 8) rfl)
theorem m_12_9 : Cond.instanceMethod y_LazyMachine_stepFix ∈ wd := wi_12 _ (List.mem_of_getElem? (i := 9) rfl)
theorem m_12_10 : Cond.code y_LazyMachine_stepFix b_LazyMachine_stepFix 2 (some .int) ∈ wd := wi_12 _ (List.mem_of_getElem? (i := 10) rfl)
theorem m_12_11 : Cond.methodLink R_LazyMachine 168 y_LazyMachine_stepLet ∈ wd := wi_12 _ (List.mem_of_getElem? (i := 11) rfl)
theorem m_12_12 : Cond.instanceMethod y_LazyMachine_stepLet ∈ wd := wi_12 _ (List.mem_of_getElem? (i := 12) rfl)
theorem m_12_13 : Cond.code y_LazyMachine_stepLet b_LazyMachine_stepLet 3 (some .int) ∈ wd := wi_12 _ (List.mem_of_getElem? (i := 13) rfl)
theorem m_12_14 : Cond.methodLink R_LazyMachine 171 y_LazyMachine_stepPair ∈ wd := wi_12 _ (List.mem_of_getElem? (i := 14) rfl)
theorem m_12_15 : Cond.instanceMethod y_LazyMachine_stepPair ∈ wd := wi_12 _ (List.mem_of_getElem? (i := 15) rfl)
theorem m_12_16 : Cond.code y_LazyMachine_stepPair b_LazyMachine_stepPair 4 (some .int) ∈ wd := wi_12 _ (List.mem_of_getElem? (i := 16) rfl)
theorem m_12_17 : Cond.methodLink R_Law 59 y_Law_result ∈ wd := wi_12 _ (List.mem_of_getElem? (i := 17) rfl)
theorem m_12_18 : Cond.static y_Law_result ∈ wd := wi_12 _ (List.mem_of_getElem? (i := 18) rfl)
theorem m_12_19 : Cond.methodLink R_Law 24 y_LazyMachine_result ∈ wd := wi_12 _ (List.mem_of_getElem? (i := 19) rfl)
theorem m_12_20 : Cond.instanceMethod y_LazyMachine_result ∈ wd := wi_12 _ (List.mem_of_getElem? (i := 20) rfl)
theorem m_12_21 : Cond.selects R_LazyMachine y_LazyMachine_result y_LazyMachine_result ∈ wd := wi_12 _ (List.mem_of_getElem? (i := 21) rfl)
theorem m_12_22 : Cond.code y_LazyMachine_result b_LazyMachine_result 3 (some .int) ∈ wd := wi_12 _ (List.mem_of_getElem? (i := 22) rfl)
theorem m_12_23 : Cond.methodLink R_Law 62 y_Law_into ∈ wd := wi_12 _ (List.mem_of_getElem? (i := 23) rfl)
theorem m_13_0 : Cond.static y_Law_into ∈ wd := wi_13 _ (List.mem_of_getElem? (i := 0) rfl)
theorem m_13_1 : Cond.methodLink R_Law 27 y_LazyMachine_into ∈ wd := wi_13 _ (List.mem_of_getElem? (i := 1) rfl)
theorem m_13_2 : Cond.instanceMethod y_LazyMachine_into ∈ wd := wi_13 _ (List.mem_of_getElem? (i := 2) rfl)
theorem m_13_3 : Cond.selects R_LazyMachine y_LazyMachine_into y_LazyMachine_into ∈ wd := wi_13 _ (List.mem_of_getElem? (i := 3) rfl)
theorem m_13_4 : Cond.code y_LazyMachine_into b_LazyMachine_into 2 (some .int) ∈ wd := wi_13 _ (List.mem_of_getElem? (i := 4) rfl)
theorem m_13_5 : Cond.methodLink R_Law 65 y_Law_apply ∈ wd := wi_13 _ (List.mem_of_getElem? (i := 5) rfl)
theorem m_13_6 : Cond.static y_Law_apply ∈ wd := wi_13 _ (List.mem_of_getElem? (i := 6) rfl)
theorem m_13_7 : Cond.methodLink R_Law 30 y_LazyMachine_apply ∈ wd := wi_13 _ (List.mem_of_getElem? (i := 7) rfl)
theorem m_13_8 : Cond.instanceMethod y_LazyMachine_apply ∈ wd := wi_13 _ (List.mem_of_getElem? (i := 8) rfl)
theorem m_13_9 : Cond.selects R_LazyMachine y_LazyMachine_apply y_LazyMachine_apply ∈ wd := wi_13 _ (List.mem_of_getElem? (i := 9) rfl)
theorem m_13_10 : Cond.code y_LazyMachine_apply b_LazyMachine_apply 2 (some .int) ∈ wd := wi_13 _ (List.mem_of_getElem? (i := 10) rfl)
theorem m_13_11 : Cond.classLink R_Law 34 R_Model ∈ wd := wi_13 _ (List.mem_of_getElem? (i := 11) rfl)
theorem m_13_12 : Cond.instantiable R_Model 30 ∈ wd := wi_13 _ (List.mem_of_getElem? (i := 12) rfl)
theorem m_13_13 : Cond.methodLink R_Law 36 y_Model_init ∈ wd := wi_13 _ (List.mem_of_getElem? (i := 13) rfl)
theorem m_13_14 : Cond.instanceMethod y_Model_init ∈ wd := wi_13 _ (List.mem_of_getElem? (i := 14) rfl)
theorem m_13_15 : Cond.code y_Model_init b_Model_init 1 none ∈ wd := wi_13 _ (List.mem_of_getElem? (i := 15) rfl)
theorem m_13_16 : Cond.methodLink R_Model 1 objectInit ∈ wd := wi_13 _ (List.mem_of_getElem? (i := 16) rfl)
theorem m_13_17 : Cond.fieldLink R_Model 56 "LazyMachineModel" "thrown" "I" ∈ wd := wi_13 _ (List.mem_of_getElem? (i := 17) rfl)
theorem m_13_18 : Cond.fieldLink R_Model 7 "LazyMachineModel" "sorts" "[I" ∈ wd := wi_13 _ (List.mem_of_getElem? (i := 18) rfl)
theorem m_13_19 : Cond.fieldLink R_Model 13 "LazyMachineModel" "xs" "[I" ∈ wd := wi_13 _ (List.mem_of_getElem? (i := 19) rfl)
theorem m_13_20 : Cond.fieldLink R_Model 64 "LazyMachineModel" "told" "I" ∈ wd := wi_13 _ (List.mem_of_getElem? (i := 20) rfl)
theorem m_13_21 : Cond.fieldLink R_Model 16 "LazyMachineModel" "sort" "[I" ∈ wd := wi_13 _ (List.mem_of_getElem? (i := 21) rfl)
theorem m_13_22 : Cond.fieldLink R_Model 19 "LazyMachineModel" "number" "[I" ∈ wd := wi_13 _ (List.mem_of_getElem? (i := 22) rfl)
theorem m_13_23 : Cond.fieldLink R_Model 22 "LazyMachineModel" "child" "[I" ∈ wd := wi_13 _ (List.mem_of_getElem? (i := 23) rfl)
theorem m_14_0 : Cond.fieldLink R_Model 67 "LazyMachineModel" "size" "I" ∈ wd := wi_14 _ (List.mem_of_getElem? (i := 0) rfl)
theorem m_14_1 : Cond.fieldLink R_Model 25 "LazyMachineModel" "owner" "[I" ∈ wd := wi_14 _ (List.mem_of_getElem? (i := 1) rfl)
theorem m_14_2 : Cond.fieldLink R_Model 28 "LazyMachineModel" "around" "[I" ∈ wd := wi_14 _ (List.mem_of_getElem? (i := 2) rfl)
theorem m_14_3 : Cond.fieldLink R_Model 31 "LazyMachineModel" "is" "[I" ∈ wd := wi_14 _ (List.mem_of_getElem? (i := 3) rfl)
theorem m_14_4 : Cond.fieldLink R_Model 34 "LazyMachineModel" "one" "[I" ∈ wd := wi_14 _ (List.mem_of_getElem? (i := 4) rfl)
theorem m_14_5 : Cond.fieldLink R_Model 37 "LazyMachineModel" "two" "[I" ∈ wd := wi_14 _ (List.mem_of_getElem? (i := 5) rfl)
theorem m_14_6 : Cond.fieldLink R_Model 40 "LazyMachineModel" "reached" "[Z" ∈ wd := wi_14 _ (List.mem_of_getElem? (i := 6) rfl)
theorem m_14_7 : Cond.fieldLink R_Model 44 "LazyMachineModel" "todo" "[I" ∈ wd := wi_14 _ (List.mem_of_getElem? (i := 7) rfl)
theorem m_14_8 : Cond.fieldLink R_Model 102 "LazyMachineModel" "left" "I" ∈ wd := wi_14 _ (List.mem_of_getElem? (i := 8) rfl)
theorem m_14_9 : Cond.fieldLink R_Model 47 "LazyMachineModel" "what" "[I" ∈ wd := wi_14 _ (List.mem_of_getElem? (i := 9) rfl)
theorem m_14_10 : Cond.fieldLink R_Model 50 "LazyMachineModel" "first" "[I" ∈ wd := wi_14 _ (List.mem_of_getElem? (i := 10) rfl)
theorem m_14_11 : Cond.fieldLink R_Model 53 "LazyMachineModel" "second" "[I" ∈ wd := wi_14 _ (List.mem_of_getElem? (i := 11) rfl)
theorem m_14_12 : Cond.fieldLink R_Model 86 "LazyMachineModel" "frames" "I" ∈ wd := wi_14 _ (List.mem_of_getElem? (i := 12) rfl)
theorem m_14_13 : Cond.fieldLink R_Model 89 "LazyMachineModel" "most" "I" ∈ wd := wi_14 _ (List.mem_of_getElem? (i := 13) rfl)
theorem m_14_14 : Cond.fieldLink R_Model 70 "LazyMachineModel" "status" "I" ∈ wd := wi_14 _ (List.mem_of_getElem? (i := 14) rfl)
theorem m_14_15 : Cond.fieldLink R_Model 80 "LazyMachineModel" "steps" "I" ∈ wd := wi_14 _ (List.mem_of_getElem? (i := 15) rfl)
theorem m_14_16 : Cond.fieldLink R_Model 83 "LazyMachineModel" "forced" "I" ∈ wd := wi_14 _ (List.mem_of_getElem? (i := 16) rfl)
theorem m_14_17 : Cond.fieldLink R_Model 92 "LazyMachineModel" "back" "Z" ∈ wd := wi_14 _ (List.mem_of_getElem? (i := 17) rfl)
theorem m_14_18 : Cond.fieldLink R_Model 96 "LazyMachineModel" "node" "I" ∈ wd := wi_14 _ (List.mem_of_getElem? (i := 18) rfl)
theorem m_14_19 : Cond.fieldLink R_Model 99 "LazyMachineModel" "environment" "I" ∈ wd := wi_14 _ (List.mem_of_getElem? (i := 19) rfl)
theorem m_14_20 : Cond.fieldLink R_Model 109 "LazyMachineModel" "valueSort" "I" ∈ wd := wi_14 _ (List.mem_of_getElem? (i := 20) rfl)
theorem m_14_21 : Cond.fieldLink R_Model 112 "LazyMachineModel" "valueOne" "I" ∈ wd := wi_14 _ (List.mem_of_getElem? (i := 21) rfl)
theorem m_14_22 : Cond.fieldLink R_Model 115 "LazyMachineModel" "valueTwo" "I" ∈ wd := wi_14 _ (List.mem_of_getElem? (i := 22) rfl)
theorem m_14_23 : Cond.arrayClass .boolean ∈ wd := wi_14 _ (List.mem_of_getElem? (i := 23) rfl)
theorem m_15_0 : Cond.methodLink R_Law 43 y_Model_thrown ∈ wd := wi_15 _ (List.mem_of_getElem? (i := 0) rfl)
theorem m_15_1 : Cond.instanceMethod y_Model_thrown ∈ wd := wi_15 _ (List.mem_of_getElem? (i := 1) rfl)
theorem m_15_2 : Cond.selects R_Model y_Model_thrown y_Model_thrown ∈ wd := wi_15 _ (List.mem_of_getElem? (i := 2) rfl)
theorem m_15_3 : Cond.code y_Model_thrown b_Model_thrown 1 (some .int) ∈ wd := wi_15 _ (List.mem_of_getElem? (i := 3) rfl)
theorem m_15_4 : Cond.methodLink R_Law 42 y_Model_put ∈ wd := wi_15 _ (List.mem_of_getElem? (i := 4) rfl)
theorem m_15_5 : Cond.instanceMethod y_Model_put ∈ wd := wi_15 _ (List.mem_of_getElem? (i := 5) rfl)
theorem m_15_6 : Cond.selects R_Model y_Model_put y_Model_put ∈ wd := wi_15 _ (List.mem_of_getElem? (i := 6) rfl)
theorem m_15_7 : Cond.code y_Model_put b_Model_put 4 (some .int) ∈ wd := wi_15 _ (List.mem_of_getElem? (i := 7) rfl)
theorem m_15_8 : Cond.methodLink R_Model 60 y_Model_fails ∈ wd := wi_15 _ (List.mem_of_getElem? (i := 8) rfl)
theorem m_15_9 : Cond.instanceMethod y_Model_fails ∈ wd := wi_15 _ (List.mem_of_getElem? (i := 9) rfl)
theorem m_15_10 : Cond.code y_Model_fails b_Model_fails 3 (some .boolean) ∈ wd := wi_15 _ (List.mem_of_getElem? (i := 10) rfl)
theorem m_15_11 : Cond.methodLink R_Law 50 y_Model_load ∈ wd := wi_15 _ (List.mem_of_getElem? (i := 11) rfl)
theorem m_15_12 : Cond.instanceMethod y_Model_load ∈ wd := wi_15 _ (List.mem_of_getElem? (i := 12) rfl)
theorem m_15_13 : Cond.selects R_Model y_Model_load y_Model_load ∈ wd := wi_15 _ (List.mem_of_getElem? (i := 13) rfl)
theorem m_15_14 : Cond.code y_Model_load b_Model_load 8 (some .int) ∈ wd := wi_15 _ (List.mem_of_getElem? (i := 14) rfl)
theorem m_15_15 : Cond.methodLink R_Model 73 y_Model_many ∈ wd := wi_15 _ (List.mem_of_getElem? (i := 15) rfl)
theorem m_15_16 : Cond.static y_Model_many ∈ wd := wi_15 _ (List.mem_of_getElem? (i := 16) rfl)
theorem m_15_17 : Cond.code y_Model_many b_Model_many 1 (some .int) ∈ wd := wi_15 _ (List.mem_of_getElem? (i := 17) rfl)
theorem m_15_18 : Cond.methodLink R_Model 77 y_Model_begin ∈ wd := wi_15 _ (List.mem_of_getElem? (i := 18) rfl)
theorem m_15_19 : Cond.instanceMethod y_Model_begin ∈ wd := wi_15 _ (List.mem_of_getElem? (i := 19) rfl)
theorem m_15_20 : Cond.code y_Model_begin b_Model_begin 1 none ∈ wd := wi_15 _ (List.mem_of_getElem? (i := 20) rfl)
theorem m_15_21 : Cond.methodLink R_Law 54 y_Model_restart ∈ wd := wi_15 _ (List.mem_of_getElem? (i := 21) rfl)
theorem m_15_22 : Cond.instanceMethod y_Model_restart ∈ wd := wi_15 _ (List.mem_of_getElem? (i := 22) rfl)
theorem m_15_23 : Cond.selects R_Model y_Model_restart y_Model_restart ∈ wd := wi_15 _ (List.mem_of_getElem? (i := 23) rfl)
theorem m_16_0 : Cond.code y_Model_restart b_Model_restart 1 none ∈ wd := wi_16 _ (List.mem_of_getElem? (i := 0) rfl)
theorem m_16_1 : Cond.methodLink R_Law 58 y_Model_run ∈ wd := wi_16 _ (List.mem_of_getElem? (i := 1) rfl)
theorem m_16_2 : Cond.instanceMethod y_Model_run ∈ wd := wi_16 _ (List.mem_of_getElem? (i := 2) rfl)
theorem m_16_3 : Cond.selects R_Model y_Model_run y_Model_run ∈ wd := wi_16 _ (List.mem_of_getElem? (i := 3) rfl)
theorem m_16_4 : Cond.code y_Model_run b_Model_run 4 (some .int) ∈ wd := wi_16 _ (List.mem_of_getElem? (i := 4) rfl)
theorem m_16_5 : Cond.methodLink R_Model 170 y_Model_returns ∈ wd := wi_16 _ (List.mem_of_getElem? (i := 5) rfl)
theorem m_16_6 : Cond.instanceMethod y_Model_returns ∈ wd := wi_16 _ (List.mem_of_getElem? (i := 6) rfl)
theorem m_16_7 : Cond.code y_Model_returns b_Model_returns 6 (some .boolean) ∈ wd := wi_16 _ (List.mem_of_getElem? (i := 7) rfl)
theorem m_16_8 : Cond.methodLink R_Model 129 y_Model_stops ∈ wd := wi_16 _ (List.mem_of_getElem? (i := 8) rfl)
theorem m_16_9 : Cond.instanceMethod y_Model_stops ∈ wd := wi_16 _ (List.mem_of_getElem? (i := 9) rfl)
theorem m_16_10 : Cond.code y_Model_stops b_Model_stops 2 (some .boolean) ∈ wd := wi_16 _ (List.mem_of_getElem? (i := 10) rfl)
theorem m_16_11 : Cond.methodLink R_Model 158 y_Model_isFull ∈ wd := wi_16 _ (List.mem_of_getElem? (i := 11) rfl)
theorem m_16_12 : Cond.instanceMethod y_Model_isFull ∈ wd := wi_16 _ (List.mem_of_getElem? (i := 12) rfl)
theorem m_16_13 : Cond.code y_Model_isFull b_Model_isFull 2 (some .boolean) ∈ wd := wi_16 _ (List.mem_of_getElem? (i := 13) rfl)
theorem m_16_14 : Cond.methodLink R_Model 133 y_Model_mark ∈ wd := wi_16 _ (List.mem_of_getElem? (i := 14) rfl)
theorem m_16_15 : Cond.instanceMethod y_Model_mark ∈ wd := wi_16 _ (List.mem_of_getElem? (i := 15) rfl)
theorem m_16_16 : Cond.code y_Model_mark b_Model_mark 3 (some .int) ∈ wd := wi_16 _ (List.mem_of_getElem? (i := 16) rfl)
theorem m_16_17 : Cond.methodLink R_Model 118 y_Model_meetValue ∈ wd := wi_16 _ (List.mem_of_getElem? (i := 17) rfl)
theorem m_16_18 : Cond.instanceMethod y_Model_meetValue ∈ wd := wi_16 _ (List.mem_of_getElem? (i := 18) rfl)
theorem m_16_19 : Cond.code y_Model_meetValue b_Model_meetValue 4 none ∈ wd := wi_16 _ (List.mem_of_getElem? (i := 19) rfl)
theorem m_16_20 : Cond.methodLink R_Model 105 y_Model_meet ∈ wd := wi_16 _ (List.mem_of_getElem? (i := 20) rfl)
theorem m_16_21 : Cond.instanceMethod y_Model_meet ∈ wd := wi_16 _ (List.mem_of_getElem? (i := 21) rfl)
theorem m_16_22 : Cond.code y_Model_meet b_Model_meet 2 none ∈ wd := wi_16 _ (List.mem_of_getElem? (i := 22) rfl)
theorem m_16_23 : Cond.methodLink R_Model 125 y_Model_cell ∈ wd := wi_16 _ (List.mem_of_getElem? (i := 23) rfl)
theorem m_17_0 : Cond.instanceMethod y_Model_cell ∈ wd := wi_17 _ (List.mem_of_getElem? (i := 0) rfl)
theorem m_17_1 : Cond.code y_Model_cell b_Model_cell 5 (some .int) ∈ wd := wi_17 _ (List.mem_of_getElem? (i := 1) rfl)
theorem m_17_2 : Cond.methodLink R_Model 147 y_Model_go ∈ wd := wi_17 _ (List.mem_of_getElem? (i := 2) rfl)
theorem m_17_3 : Cond.instanceMethod y_Model_go ∈ wd := wi_17 _ (List.mem_of_getElem? (i := 3) rfl)
theorem m_17_4 : Cond.code y_Model_go b_Model_go 3 none ∈ wd := wi_17 _ (List.mem_of_getElem? (i := 4) rfl)
theorem m_17_5 : Cond.methodLink R_Model 144 y_Model_push ∈ wd := wi_17 _ (List.mem_of_getElem? (i := 5) rfl)
theorem m_17_6 : Cond.instanceMethod y_Model_push ∈ wd := wi_17 _ (List.mem_of_getElem? (i := 6) rfl)
theorem m_17_7 : Cond.code y_Model_push b_Model_push 4 none ∈ wd := wi_17 _ (List.mem_of_getElem? (i := 7) rfl)
theorem m_17_8 : Cond.methodLink R_Model 164 y_Model_reckoned ∈ wd := wi_17 _ (List.mem_of_getElem? (i := 8) rfl)
theorem m_17_9 : Cond.static y_Model_reckoned ∈ wd := wi_17 _ (List.mem_of_getElem? (i := 9) rfl)
theorem m_17_10 : Cond.code y_Model_reckoned b_Model_reckoned 3 (some .int) ∈ wd := wi_17 _ (List.mem_of_getElem? (i := 10) rfl)
theorem m_17_11 : Cond.methodLink R_Model 137 y_Model_give ∈ wd := wi_17 _ (List.mem_of_getElem? (i := 11) rfl)
theorem m_17_12 : Cond.instanceMethod y_Model_give ∈ wd := wi_17 _ (List.mem_of_getElem? (i := 12) rfl)
theorem m_17_13 : Cond.code y_Model_give b_Model_give 4 none ∈ wd := wi_17 _ (List.mem_of_getElem? (i := 13) rfl)
theorem m_17_14 : Cond.methodLink R_Model 167 y_Model_part ∈ wd := wi_17 _ (List.mem_of_getElem? (i := 14) rfl)
theorem m_17_15 : Cond.instanceMethod y_Model_part ∈ wd := wi_17 _ (List.mem_of_getElem? (i := 15) rfl)
theorem m_17_16 : Cond.code y_Model_part b_Model_part 3 (some .boolean) ∈ wd := wi_17 _ (List.mem_of_getElem? (i := 16) rfl)
theorem m_17_17 : Cond.methodLink R_Model 151 y_Model_asks ∈ wd := wi_17 _ (List.mem_of_getElem? (i := 17) rfl)
theorem m_17_18 : Cond.instanceMethod y_Model_asks ∈ wd := wi_17 _ (List.mem_of_getElem? (i := 18) rfl)
theorem m_17_19 : Cond.code y_Model_asks b_Model_asks 5 (some .boolean) ∈ wd := wi_17 _ (List.mem_of_getElem? (i := 19) rfl)
theorem m_17_20 : Cond.methodLink R_Model 140 y_Model_isHigh ∈ wd := wi_17 _ (List.mem_of_getElem? (i := 20) rfl)
theorem m_17_21 : Cond.instanceMethod y_Model_isHigh ∈ wd := wi_17 _ (List.mem_of_getElem? (i := 21) rfl)
theorem m_17_22 : Cond.code y_Model_isHigh b_Model_isHigh 1 (some .boolean) ∈ wd := wi_17 _ (List.mem_of_getElem? (i := 22) rfl)
theorem m_17_23 : Cond.methodLink R_Model 173 y_Model_at ∈ wd := wi_17 _ (List.mem_of_getElem? (i := 23) rfl)
theorem m_18_0 : Cond.instanceMethod y_Model_at ∈ wd := wi_18 _ (List.mem_of_getElem? (i := 0) rfl)
theorem m_18_1 : Cond.code y_Model_at b_Model_at 9 (some .boolean) ∈ wd := wi_18 _ (List.mem_of_getElem? (i := 1) rfl)
theorem m_18_2 : Cond.methodLink R_Model 122 y_Model_bound ∈ wd := wi_18 _ (List.mem_of_getElem? (i := 2) rfl)
theorem m_18_3 : Cond.instanceMethod y_Model_bound ∈ wd := wi_18 _ (List.mem_of_getElem? (i := 3) rfl)
theorem m_18_4 : Cond.code y_Model_bound b_Model_bound 4 (some .int) ∈ wd := wi_18 _ (List.mem_of_getElem? (i := 4) rfl)
theorem m_18_5 : Cond.methodLink R_Model 155 y_Model_costs ∈ wd := wi_18 _ (List.mem_of_getElem? (i := 5) rfl)
theorem m_18_6 : Cond.instanceMethod y_Model_costs ∈ wd := wi_18 _ (List.mem_of_getElem? (i := 6) rfl)
theorem m_18_7 : Cond.code y_Model_costs b_Model_costs 2 (some .int) ∈ wd := wi_18 _ (List.mem_of_getElem? (i := 7) rfl)
theorem m_18_8 : Cond.methodLink R_Model 161 y_Model_thunk ∈ wd := wi_18 _ (List.mem_of_getElem? (i := 8) rfl)
theorem m_18_9 : Cond.instanceMethod y_Model_thunk ∈ wd := wi_18 _ (List.mem_of_getElem? (i := 9) rfl)
theorem m_18_10 : Cond.code y_Model_thunk b_Model_thunk 2 (some .int) ∈ wd := wi_18 _ (List.mem_of_getElem? (i := 10) rfl)
theorem m_18_11 : Cond.methodLink R_Law 61 y_Model_result ∈ wd := wi_18 _ (List.mem_of_getElem? (i := 11) rfl)
theorem m_18_12 : Cond.instanceMethod y_Model_result ∈ wd := wi_18 _ (List.mem_of_getElem? (i := 12) rfl)
theorem m_18_13 : Cond.selects R_Model y_Model_result y_Model_result ∈ wd := wi_18 _ (List.mem_of_getElem? (i := 13) rfl)
theorem m_18_14 : Cond.code y_Model_result b_Model_result 2 (some .int) ∈ wd := wi_18 _ (List.mem_of_getElem? (i := 14) rfl)
theorem m_18_15 : Cond.methodLink R_Law 64 y_Model_into ∈ wd := wi_18 _ (List.mem_of_getElem? (i := 15) rfl)
theorem m_18_16 : Cond.instanceMethod y_Model_into ∈ wd := wi_18 _ (List.mem_of_getElem? (i := 16) rfl)
theorem m_18_17 : Cond.selects R_Model y_Model_into y_Model_into ∈ wd := wi_18 _ (List.mem_of_getElem? (i := 17) rfl)
theorem m_18_18 : Cond.code y_Model_into b_Model_into 3 (some .int) ∈ wd := wi_18 _ (List.mem_of_getElem? (i := 18) rfl)
theorem m_18_19 : Cond.methodLink R_Law 67 y_Model_apply ∈ wd := wi_18 _ (List.mem_of_getElem? (i := 19) rfl)
theorem m_18_20 : Cond.instanceMethod y_Model_apply ∈ wd := wi_18 _ (List.mem_of_getElem? (i := 20) rfl)
theorem m_18_21 : Cond.selects R_Model y_Model_apply y_Model_apply ∈ wd := wi_18 _ (List.mem_of_getElem? (i := 21) rfl)
theorem m_18_22 : Cond.code y_Model_apply b_Model_apply 4 (some .int) ∈ wd := wi_18 _ (List.mem_of_getElem? (i := 22) rfl)
theorem m_18_23 : Cond.methodLink R_Law 71 y_Model_count ∈ wd := wi_18 _ (List.mem_of_getElem? (i := 23) rfl)
theorem m_19_0 : Cond.instanceMethod y_Model_count ∈ wd := wi_19 _ (List.mem_of_getElem? (i := 0) rfl)
theorem m_19_1 : Cond.selects R_Model y_Model_count y_Model_count ∈ wd := wi_19 _ (List.mem_of_getElem? (i := 1) rfl)
theorem m_19_2 : Cond.code y_Model_count b_Model_count 3 (some .int) ∈ wd := wi_19 _ (List.mem_of_getElem? (i := 2) rfl)
theorem m_19_3 : Cond.arrayClass .long ∈ wd := wi_19 _ (List.mem_of_getElem? (i := 3) rfl)
theorem m_19_4 : Cond.selects R_Term y_Term_givePart y_Term_givePart ∈ wd := wi_19 _ (List.mem_of_getElem? (i := 4) rfl)
theorem m_19_5 : Cond.selects R_LazyMachine y_LazyMachine_begin y_LazyMachine_begin ∈ wd := wi_19 _ (List.mem_of_getElem? (i := 5) rfl)
theorem m_19_6 : Cond.selects R_LazyMachine y_LazyMachine_enter y_LazyMachine_enter ∈ wd := wi_19 _ (List.mem_of_getElem? (i := 6) rfl)
theorem m_19_7 : Cond.selects R_LazyMachine y_LazyMachine_markRoots y_LazyMachine_markRoots ∈ wd := wi_19 _ (List.mem_of_getElem? (i := 7) rfl)
theorem m_19_8 : Cond.selects R_LazyMachine y_LazyMachine_stepBack y_LazyMachine_stepBack ∈ wd := wi_19 _ (List.mem_of_getElem? (i := 8) rfl)
theorem m_19_9 : Cond.selects R_LazyMachine y_LazyMachine_stepArgument y_LazyMachine_stepArgument ∈ wd := wi_19 _ (List.mem_of_getElem? (i := 9) rfl)
theorem m_19_10 : Cond.selects R_LazyMachine y_LazyMachine_hasRoomFor y_LazyMachine_hasRoomFor ∈ wd := wi_19 _ (List.mem_of_getElem? (i := 10) rfl)
theorem m_19_11 : Cond.selects R_LazyMachine y_LazyMachine_enterFunction y_LazyMachine_enterFunction ∈ wd := wi_19 _ (List.mem_of_getElem? (i := 11) rfl)
theorem m_19_12 : Cond.selects R_LazyMachine y_LazyMachine_stepLeft y_LazyMachine_stepLeft ∈ wd := wi_19 _ (List.mem_of_getElem? (i := 12) rfl)
theorem m_19_13 : Cond.selects R_LazyMachine y_LazyMachine_stepRight y_LazyMachine_stepRight ∈ wd := wi_19 _ (List.mem_of_getElem? (i := 13) rfl)
theorem m_19_14 : Cond.selects R_LazyMachine y_LazyMachine_backWith y_LazyMachine_backWith ∈ wd := wi_19 _ (List.mem_of_getElem? (i := 14) rfl)
theorem m_19_15 : Cond.selects R_LazyMachine y_LazyMachine_stepTest y_LazyMachine_stepTest ∈ wd := wi_19 _ (List.mem_of_getElem? (i := 15) rfl)
theorem m_19_16 : Cond.selects R_LazyMachine y_LazyMachine_stepPart y_LazyMachine_stepPart ∈ wd := wi_19 _ (List.mem_of_getElem? (i := 16) rfl)
theorem m_19_17 : Cond.selects R_LazyMachine y_LazyMachine_ask y_LazyMachine_ask ∈ wd := wi_19 _ (List.mem_of_getElem? (i := 17) rfl)
theorem m_19_18 : Cond.selects R_LazyMachine y_LazyMachine_stepAt y_LazyMachine_stepAt ∈ wd := wi_19 _ (List.mem_of_getElem? (i := 18) rfl)
theorem m_19_19 : Cond.selects R_LazyMachine y_LazyMachine_stepApply y_LazyMachine_stepApply ∈ wd := wi_19 _ (List.mem_of_getElem? (i := 19) rfl)
theorem m_19_20 : Cond.selects R_LazyMachine y_LazyMachine_cellsFor y_LazyMachine_cellsFor ∈ wd := wi_19 _ (List.mem_of_getElem? (i := 20) rfl)
theorem m_19_21 : Cond.selects R_LazyMachine y_LazyMachine_thunkFor y_LazyMachine_thunkFor ∈ wd := wi_19 _ (List.mem_of_getElem? (i := 21) rfl)
theorem m_19_22 : Cond.selects R_LazyMachine y_LazyMachine_stepUnder y_LazyMachine_stepUnder ∈ wd := wi_19 _ (List.mem_of_getElem? (i := 22) rfl)
theorem m_19_23 : Cond.selects R_LazyMachine y_LazyMachine_stepFix y_LazyMachine_stepFix ∈ wd := wi_19 _ (List.mem_of_getElem? (i := 23) rfl)
theorem m_20_0 : Cond.selects R_LazyMachine y_LazyMachine_stepLet y_LazyMachine_stepLet ∈ wd := wi_20 _ (List.mem_of_getElem? (i := 0) rfl)
theorem m_20_1 : Cond.selects R_LazyMachine y_LazyMachine_stepPair y_LazyMachine_stepPair ∈ wd := wi_20 _ (List.mem_of_getElem? (i := 1) rfl)
theorem m_20_2 : Cond.selects R_Model y_Model_fails y_Model_fails ∈ wd := wi_20 _ (List.mem_of_getElem? (i := 2) rfl)
theorem m_20_3 : Cond.selects R_Model y_Model_begin y_Model_begin ∈ wd := wi_20 _ (List.mem_of_getElem? (i := 3) rfl)
theorem m_20_4 : Cond.selects R_Model y_Model_returns y_Model_returns ∈ wd := wi_20 _ (List.mem_of_getElem? (i := 4) rfl)
theorem m_20_5 : Cond.selects R_Model y_Model_stops y_Model_stops ∈ wd := wi_20 _ (List.mem_of_getElem? (i := 5) rfl)
theorem m_20_6 : Cond.selects R_Model y_Model_isFull y_Model_isFull ∈ wd := wi_20 _ (List.mem_of_getElem? (i := 6) rfl)
theorem m_20_7 : Cond.selects R_Model y_Model_mark y_Model_mark ∈ wd := wi_20 _ (List.mem_of_getElem? (i := 7) rfl)
theorem m_20_8 : Cond.selects R_Model y_Model_meetValue y_Model_meetValue ∈ wd := wi_20 _ (List.mem_of_getElem? (i := 8) rfl)
theorem m_20_9 : Cond.selects R_Model y_Model_meet y_Model_meet ∈ wd := wi_20 _ (List.mem_of_getElem? (i := 9) rfl)
theorem m_20_10 : Cond.selects R_Model y_Model_cell y_Model_cell ∈ wd := wi_20 _ (List.mem_of_getElem? (i := 10) rfl)
theorem m_20_11 : Cond.selects R_Model y_Model_go y_Model_go ∈ wd := wi_20 _ (List.mem_of_getElem? (i := 11) rfl)
theorem m_20_12 : Cond.selects R_Model y_Model_push y_Model_push ∈ wd := wi_20 _ (List.mem_of_getElem? (i := 12) rfl)
theorem m_20_13 : Cond.selects R_Model y_Model_give y_Model_give ∈ wd := wi_20 _ (List.mem_of_getElem? (i := 13) rfl)
theorem m_20_14 : Cond.selects R_Model y_Model_part y_Model_part ∈ wd := wi_20 _ (List.mem_of_getElem? (i := 14) rfl)
theorem m_20_15 : Cond.selects R_Model y_Model_asks y_Model_asks ∈ wd := wi_20 _ (List.mem_of_getElem? (i := 15) rfl)
theorem m_20_16 : Cond.selects R_Model y_Model_isHigh y_Model_isHigh ∈ wd := wi_20 _ (List.mem_of_getElem? (i := 16) rfl)
theorem m_20_17 : Cond.selects R_Model y_Model_at y_Model_at ∈ wd := wi_20 _ (List.mem_of_getElem? (i := 17) rfl)
theorem m_20_18 : Cond.selects R_Model y_Model_bound y_Model_bound ∈ wd := wi_20 _ (List.mem_of_getElem? (i := 18) rfl)
theorem m_20_19 : Cond.selects R_Model y_Model_costs y_Model_costs ∈ wd := wi_20 _ (List.mem_of_getElem? (i := 19) rfl)
theorem m_20_20 : Cond.selects R_Model y_Model_thunk y_Model_thunk ∈ wd := wi_20 _ (List.mem_of_getElem? (i := 20) rfl)
theorem wd_in {c0 : Cond} : ∀ w ∈ wd, w ∈ c0 :: wd := fun _ h => List.mem_cons_of_mem _ h
theorem wd_ok {w : Cond} (h : w ∈ wd) : (w.onTables && w.keeps) = true ∨ ∃ ty, w = .arrayClass ty := good_of_word (List.all_eq_true.mp wd_good w h)
theorem lm_gV {c0 cw : Cond} {own C : String} {idx : Nat} {y : MethodName} (h1 : Cond.methodLink own idx y ∈ wd) (h2 : Cond.instanceMethod y ∈ wd) (h3 : Cond.selects C y y ∈ wd) (h4 : Cond.initialized C ∈ wd) (h5 : cw ∈ wd) : GoodIn (c0 :: wd) (wsV own idx C y (cw :: wd)) := by
  intro w hw
  have h : w ∈ wd := by
    rcases List.mem_append.mp hw with h | h
    · simp only [List.mem_cons, List.not_mem_nil, or_false] at h
      rcases h with rfl | rfl | rfl | rfl
      · exact h1
      · exact h2
      · exact h3
      · exact h4
    · rcases List.mem_cons.mp h with rfl | h
      · exact h5
      · exact h
  exact ⟨wd_in w h, wd_ok h⟩
theorem lm_gS {c0 cw : Cond} {own : String} {idx : Nat} {y : MethodName} (h1 : Cond.methodLink own idx y ∈ wd) (h2 : Cond.static y ∈ wd) (h4 : Cond.initialized own ∈ wd) (h5 : cw ∈ wd) : GoodIn (c0 :: wd) (wsS own idx y (cw :: wd)) := by
  intro w hw
  have h : w ∈ wd := by
    rcases List.mem_append.mp hw with h | h
    · simp only [List.mem_cons, List.not_mem_nil, or_false] at h
      rcases h with rfl | rfl | rfl
      · exact h1
      · exact h2
      · exact h4
    · rcases List.mem_cons.mp h with rfl | h
      · exact h5
      · exact h
  exact ⟨wd_in w h, wd_ok h⟩
theorem lm_gI {c0 cw : Cond} (h5 : cw ∈ wd) : GoodIn (c0 :: wd) (cw :: wd) := by
  intro w hw
  have h : w ∈ wd := by
    rcases List.mem_cons.mp hw with rfl | h
    · exact h5
    · exact h
  exact ⟨wd_in w h, wd_ok h⟩
abbrev c0_LazyMachine_init : Cond := Cond.code y_LazyMachine_init b_LazyMachine_init 1 none
abbrev w_LazyMachine_init : List Cond := c0_LazyMachine_init :: wd
abbrev c0_Heap_init : Cond := Cond.code y_Heap_init b_Heap_init 1 none
abbrev w_Heap_init : List Cond := c0_Heap_init :: wd
abbrev c0_Pile_init : Cond := Cond.code y_Pile_init b_Pile_init 1 none
abbrev w_Pile_init : List Cond := c0_Pile_init :: wd
abbrev c0_Term_init : Cond := Cond.code y_Term_init b_Term_init 1 none
abbrev w_Term_init : List Cond := c0_Term_init :: wd
abbrev c0_LazyMachine_load : Cond := Cond.code y_LazyMachine_load b_LazyMachine_load 3 (some .int)
abbrev w_LazyMachine_load : List Cond := c0_LazyMachine_load :: wd
abbrev c0_Term_settle : Cond := Cond.code y_Term_settle b_Term_settle 3 (some .int)
abbrev w_Term_settle : List Cond := c0_Term_settle :: wd
abbrev c0_Term_givePart : Cond := Cond.code y_Term_givePart b_Term_givePart 4 (some .boolean)
abbrev w_Term_givePart : List Cond := c0_Term_givePart :: wd
abbrev c0_Term_bindsIn : Cond := Cond.code y_Term_bindsIn b_Term_bindsIn 2 (some .boolean)
abbrev w_Term_bindsIn : List Cond := c0_Term_bindsIn :: wd
abbrev c0_Term_clear : Cond := Cond.code y_Term_clear b_Term_clear 1 none
abbrev w_Term_clear : List Cond := c0_Term_clear :: wd
abbrev c0_LazyMachine_begin : Cond := Cond.code y_LazyMachine_begin b_LazyMachine_begin 2 none
abbrev w_LazyMachine_begin : List Cond := c0_LazyMachine_begin :: wd
abbrev c0_Heap_empty : Cond := Cond.code y_Heap_empty b_Heap_empty 1 none
abbrev w_Heap_empty : List Cond := c0_Heap_empty :: wd
abbrev c0_Heap_beginMarks : Cond := Cond.code y_Heap_beginMarks b_Heap_beginMarks 1 none
abbrev w_Heap_beginMarks : List Cond := c0_Heap_beginMarks :: wd
abbrev c0_Heap_freeUnreached : Cond := Cond.code y_Heap_freeUnreached b_Heap_freeUnreached 2 none
abbrev w_Heap_freeUnreached : List Cond := c0_Heap_freeUnreached :: wd
abbrev c0_Pile_empty : Cond := Cond.code y_Pile_empty b_Pile_empty 1 none
abbrev w_Pile_empty : List Cond := c0_Pile_empty :: wd
abbrev c0_LazyMachine_enter : Cond := Cond.code y_LazyMachine_enter b_LazyMachine_enter 3 none
abbrev w_LazyMachine_enter : List Cond := c0_LazyMachine_enter :: wd
abbrev c0_LazyMachine_count : Cond := Cond.code y_LazyMachine_count b_LazyMachine_count 2 (some .int)
abbrev w_LazyMachine_count : List Cond := c0_LazyMachine_count :: wd
abbrev c0_Term_size : Cond := Cond.code y_Term_size b_Term_size 1 (some .int)
abbrev w_Term_size : List Cond := c0_Term_size :: wd
abbrev c0_Pile_size : Cond := Cond.code y_Pile_size b_Pile_size 1 (some .int)
abbrev w_Pile_size : List Cond := c0_Pile_size :: wd
abbrev c0_LazyMachine_markRoots : Cond := Cond.code y_LazyMachine_markRoots b_LazyMachine_markRoots 1 none
abbrev w_LazyMachine_markRoots : List Cond := c0_LazyMachine_markRoots :: wd
abbrev c0_Heap_reachFrom : Cond := Cond.code y_Heap_reachFrom b_Heap_reachFrom 4 none
abbrev w_Heap_reachFrom : List Cond := c0_Heap_reachFrom :: wd
abbrev c0_Heap_reach : Cond := Cond.code y_Heap_reach b_Heap_reach 2 none
abbrev w_Heap_reach : List Cond := c0_Heap_reach :: wd
abbrev c0_Pile_reachAll : Cond := Cond.code y_Pile_reachAll b_Pile_reachAll 3 none
abbrev w_Pile_reachAll : List Cond := c0_Pile_reachAll :: wd
abbrev c0_Heap_spreadMarks : Cond := Cond.code y_Heap_spreadMarks b_Heap_spreadMarks 3 (some .int)
abbrev w_Heap_spreadMarks : List Cond := c0_Heap_spreadMarks :: wd
abbrev c0_Pile_most : Cond := Cond.code y_Pile_most b_Pile_most 1 (some .int)
abbrev w_Pile_most : List Cond := c0_Pile_most :: wd
abbrev c0_LazyMachine_put : Cond := Cond.code y_LazyMachine_put b_LazyMachine_put 3 (some .int)
abbrev w_LazyMachine_put : List Cond := c0_LazyMachine_put :: wd
abbrev c0_LazyMachine_mayBear : Cond := Cond.code y_LazyMachine_mayBear b_LazyMachine_mayBear 2 (some .boolean)
abbrev w_LazyMachine_mayBear : List Cond := c0_LazyMachine_mayBear :: wd
abbrev c0_Term_add : Cond := Cond.code y_Term_add b_Term_add 3 (some .boolean)
abbrev w_Term_add : List Cond := c0_Term_add :: wd
abbrev c0_LazyMachine_restart : Cond := Cond.code y_LazyMachine_restart b_LazyMachine_restart 1 none
abbrev w_LazyMachine_restart : List Cond := c0_LazyMachine_restart :: wd
abbrev c0_LazyMachine_run : Cond := Cond.code y_LazyMachine_run b_LazyMachine_run 3 (some .int)
abbrev w_LazyMachine_run : List Cond := c0_LazyMachine_run :: wd
abbrev c0_LazyMachine_stepBack : Cond := Cond.code y_LazyMachine_stepBack b_LazyMachine_stepBack 2 (some .int)
abbrev w_LazyMachine_stepBack : List Cond := c0_LazyMachine_stepBack :: wd
abbrev c0_Pile_topFirst : Cond := Cond.code y_Pile_topFirst b_Pile_topFirst 1 (some .int)
abbrev w_Pile_topFirst : List Cond := c0_Pile_topFirst :: wd
abbrev c0_Pile_topSort : Cond := Cond.code y_Pile_topSort b_Pile_topSort 1 (some .int)
abbrev w_Pile_topSort : List Cond := c0_Pile_topSort :: wd
abbrev c0_Pile_drop : Cond := Cond.code y_Pile_drop b_Pile_drop 1 none
abbrev w_Pile_drop : List Cond := c0_Pile_drop :: wd
abbrev c0_Heap_become : Cond := Cond.code y_Heap_become b_Heap_become 5 none
abbrev w_Heap_become : List Cond := c0_Heap_become :: wd
abbrev c0_LazyMachine_stepArgument : Cond := Cond.code y_LazyMachine_stepArgument b_LazyMachine_stepArgument 2 (some .int)
abbrev w_LazyMachine_stepArgument : List Cond := c0_LazyMachine_stepArgument :: wd
abbrev c0_LazyMachine_hasRoomFor : Cond := Cond.code y_LazyMachine_hasRoomFor b_LazyMachine_hasRoomFor 2 (some .boolean)
abbrev w_LazyMachine_hasRoomFor : List Cond := c0_LazyMachine_hasRoomFor :: wd
abbrev c0_Heap_free : Cond := Cond.code y_Heap_free b_Heap_free 1 (some .int)
abbrev w_Heap_free : List Cond := c0_Heap_free :: wd
abbrev c0_LazyMachine_enterFunction : Cond := Cond.code y_LazyMachine_enterFunction b_LazyMachine_enterFunction 2 none
abbrev w_LazyMachine_enterFunction : List Cond := c0_LazyMachine_enterFunction :: wd
abbrev c0_Term_part : Cond := Cond.code y_Term_part b_Term_part 3 (some .int)
abbrev w_Term_part : List Cond := c0_Term_part :: wd
abbrev c0_Heap_take : Cond := Cond.code y_Heap_take b_Heap_take 5 (some .int)
abbrev w_Heap_take : List Cond := c0_Heap_take :: wd
abbrev c0_Pile_topSecond : Cond := Cond.code y_Pile_topSecond b_Pile_topSecond 1 (some .int)
abbrev w_Pile_topSecond : List Cond := c0_Pile_topSecond :: wd
abbrev c0_LazyMachine_stepLeft : Cond := Cond.code y_LazyMachine_stepLeft b_LazyMachine_stepLeft 3 (some .int)
abbrev w_LazyMachine_stepLeft : List Cond := c0_LazyMachine_stepLeft :: wd
abbrev c0_Pile_add : Cond := Cond.code y_Pile_add b_Pile_add 4 none
abbrev w_Pile_add : List Cond := c0_Pile_add :: wd
abbrev c0_Pile_isFull : Cond := Cond.code y_Pile_isFull b_Pile_isFull 1 (some .boolean)
abbrev w_Pile_isFull : List Cond := c0_Pile_isFull :: wd
abbrev c0_LazyMachine_stepRight : Cond := Cond.code y_LazyMachine_stepRight b_LazyMachine_stepRight 3 (some .int)
abbrev w_LazyMachine_stepRight : List Cond := c0_LazyMachine_stepRight :: wd
abbrev c0_Term_sort : Cond := Cond.code y_Term_sort b_Term_sort 2 (some .int)
abbrev w_Term_sort : List Cond := c0_Term_sort :: wd
abbrev c0_LazyMachine_reckon : Cond := Cond.code y_LazyMachine_reckon b_LazyMachine_reckon 3 (some .int)
abbrev w_LazyMachine_reckon : List Cond := c0_LazyMachine_reckon :: wd
abbrev c0_LazyMachine_backWith : Cond := Cond.code y_LazyMachine_backWith b_LazyMachine_backWith 4 (some .int)
abbrev w_LazyMachine_backWith : List Cond := c0_LazyMachine_backWith :: wd
abbrev c0_LazyMachine_stepTest : Cond := Cond.code y_LazyMachine_stepTest b_LazyMachine_stepTest 3 (some .int)
abbrev w_LazyMachine_stepTest : List Cond := c0_LazyMachine_stepTest :: wd
abbrev c0_LazyMachine_stepPart : Cond := Cond.code y_LazyMachine_stepPart b_LazyMachine_stepPart 3 (some .int)
abbrev w_LazyMachine_stepPart : List Cond := c0_LazyMachine_stepPart :: wd
abbrev c0_Heap_state : Cond := Cond.code y_Heap_state b_Heap_state 2 (some .int)
abbrev w_Heap_state : List Cond := c0_Heap_state :: wd
abbrev c0_LazyMachine_ask : Cond := Cond.code y_LazyMachine_ask b_LazyMachine_ask 5 (some .int)
abbrev w_LazyMachine_ask : List Cond := c0_LazyMachine_ask :: wd
abbrev c0_Heap_first : Cond := Cond.code y_Heap_first b_Heap_first 2 (some .int)
abbrev w_Heap_first : List Cond := c0_Heap_first :: wd
abbrev c0_Heap_second : Cond := Cond.code y_Heap_second b_Heap_second 2 (some .int)
abbrev w_Heap_second : List Cond := c0_Heap_second :: wd
abbrev c0_LazyMachine_stepAt : Cond := Cond.code y_LazyMachine_stepAt b_LazyMachine_stepAt 1 (some .int)
abbrev w_LazyMachine_stepAt : List Cond := c0_LazyMachine_stepAt :: wd
abbrev c0_Term_x : Cond := Cond.code y_Term_x b_Term_x 2 (some .int)
abbrev w_Term_x : List Cond := c0_Term_x :: wd
abbrev c0_Heap_boundTo : Cond := Cond.code y_Heap_boundTo b_Heap_boundTo 5 (some .int)
abbrev w_Heap_boundTo : List Cond := c0_Heap_boundTo :: wd
abbrev c0_LazyMachine_stepApply : Cond := Cond.code y_LazyMachine_stepApply b_LazyMachine_stepApply 2 (some .int)
abbrev w_LazyMachine_stepApply : List Cond := c0_LazyMachine_stepApply :: wd
abbrev c0_LazyMachine_cellsFor : Cond := Cond.code y_LazyMachine_cellsFor b_LazyMachine_cellsFor 2 (some .int)
abbrev w_LazyMachine_cellsFor : List Cond := c0_LazyMachine_cellsFor :: wd
abbrev c0_LazyMachine_thunkFor : Cond := Cond.code y_LazyMachine_thunkFor b_LazyMachine_thunkFor 2 (some .int)
abbrev w_LazyMachine_thunkFor : List Cond := c0_LazyMachine_thunkFor :: wd
abbrev c0_LazyMachine_stepUnder : Cond := Cond.code y_LazyMachine_stepUnder b_LazyMachine_stepUnder 4 (some .int)
abbrev w_LazyMachine_stepUnder : List Cond := c0_LazyMachine_stepUnder :: wd
abbrev c0_LazyMachine_stepFix : Cond := Cond.code y_LazyMachine_stepFix b_LazyMachine_stepFix 2 (some .int)
abbrev w_LazyMachine_stepFix : List Cond := c0_LazyMachine_stepFix :: wd
abbrev c0_LazyMachine_stepLet : Cond := Cond.code y_LazyMachine_stepLet b_LazyMachine_stepLet 3 (some .int)
abbrev w_LazyMachine_stepLet : List Cond := c0_LazyMachine_stepLet :: wd
abbrev c0_LazyMachine_stepPair : Cond := Cond.code y_LazyMachine_stepPair b_LazyMachine_stepPair 4 (some .int)
abbrev w_LazyMachine_stepPair : List Cond := c0_LazyMachine_stepPair :: wd
abbrev c0_LazyMachine_result : Cond := Cond.code y_LazyMachine_result b_LazyMachine_result 3 (some .int)
abbrev w_LazyMachine_result : List Cond := c0_LazyMachine_result :: wd
abbrev c0_LazyMachine_into : Cond := Cond.code y_LazyMachine_into b_LazyMachine_into 2 (some .int)
abbrev w_LazyMachine_into : List Cond := c0_LazyMachine_into :: wd
abbrev c0_LazyMachine_apply : Cond := Cond.code y_LazyMachine_apply b_LazyMachine_apply 2 (some .int)
abbrev w_LazyMachine_apply : List Cond := c0_LazyMachine_apply :: wd
abbrev c0_Model_init : Cond := Cond.code y_Model_init b_Model_init 1 none
abbrev w_Model_init : List Cond := c0_Model_init :: wd
abbrev c0_Model_thrown : Cond := Cond.code y_Model_thrown b_Model_thrown 1 (some .int)
abbrev w_Model_thrown : List Cond := c0_Model_thrown :: wd
abbrev c0_Model_put : Cond := Cond.code y_Model_put b_Model_put 4 (some .int)
abbrev w_Model_put : List Cond := c0_Model_put :: wd
abbrev c0_Model_fails : Cond := Cond.code y_Model_fails b_Model_fails 3 (some .boolean)
abbrev w_Model_fails : List Cond := c0_Model_fails :: wd
abbrev c0_Model_load : Cond := Cond.code y_Model_load b_Model_load 8 (some .int)
abbrev w_Model_load : List Cond := c0_Model_load :: wd
abbrev c0_Model_many : Cond := Cond.code y_Model_many b_Model_many 1 (some .int)
abbrev w_Model_many : List Cond := c0_Model_many :: wd
abbrev c0_Model_begin : Cond := Cond.code y_Model_begin b_Model_begin 1 none
abbrev w_Model_begin : List Cond := c0_Model_begin :: wd
abbrev c0_Model_restart : Cond := Cond.code y_Model_restart b_Model_restart 1 none
abbrev w_Model_restart : List Cond := c0_Model_restart :: wd
abbrev c0_Model_run : Cond := Cond.code y_Model_run b_Model_run 4 (some .int)
abbrev w_Model_run : List Cond := c0_Model_run :: wd
abbrev c0_Model_returns : Cond := Cond.code y_Model_returns b_Model_returns 6 (some .boolean)
abbrev w_Model_returns : List Cond := c0_Model_returns :: wd
abbrev c0_Model_stops : Cond := Cond.code y_Model_stops b_Model_stops 2 (some .boolean)
abbrev w_Model_stops : List Cond := c0_Model_stops :: wd
abbrev c0_Model_isFull : Cond := Cond.code y_Model_isFull b_Model_isFull 2 (some .boolean)
abbrev w_Model_isFull : List Cond := c0_Model_isFull :: wd
abbrev c0_Model_mark : Cond := Cond.code y_Model_mark b_Model_mark 3 (some .int)
abbrev w_Model_mark : List Cond := c0_Model_mark :: wd
abbrev c0_Model_meetValue : Cond := Cond.code y_Model_meetValue b_Model_meetValue 4 none
abbrev w_Model_meetValue : List Cond := c0_Model_meetValue :: wd
abbrev c0_Model_meet : Cond := Cond.code y_Model_meet b_Model_meet 2 none
abbrev w_Model_meet : List Cond := c0_Model_meet :: wd
abbrev c0_Model_cell : Cond := Cond.code y_Model_cell b_Model_cell 5 (some .int)
abbrev w_Model_cell : List Cond := c0_Model_cell :: wd
abbrev c0_Model_go : Cond := Cond.code y_Model_go b_Model_go 3 none
abbrev w_Model_go : List Cond := c0_Model_go :: wd
abbrev c0_Model_push : Cond := Cond.code y_Model_push b_Model_push 4 none
abbrev w_Model_push : List Cond := c0_Model_push :: wd
abbrev c0_Model_reckoned : Cond := Cond.code y_Model_reckoned b_Model_reckoned 3 (some .int)
abbrev w_Model_reckoned : List Cond := c0_Model_reckoned :: wd
abbrev c0_Model_give : Cond := Cond.code y_Model_give b_Model_give 4 none
abbrev w_Model_give : List Cond := c0_Model_give :: wd
abbrev c0_Model_part : Cond := Cond.code y_Model_part b_Model_part 3 (some .boolean)
abbrev w_Model_part : List Cond := c0_Model_part :: wd
abbrev c0_Model_asks : Cond := Cond.code y_Model_asks b_Model_asks 5 (some .boolean)
abbrev w_Model_asks : List Cond := c0_Model_asks :: wd
abbrev c0_Model_isHigh : Cond := Cond.code y_Model_isHigh b_Model_isHigh 1 (some .boolean)
abbrev w_Model_isHigh : List Cond := c0_Model_isHigh :: wd
abbrev c0_Model_at : Cond := Cond.code y_Model_at b_Model_at 9 (some .boolean)
abbrev w_Model_at : List Cond := c0_Model_at :: wd
abbrev c0_Model_bound : Cond := Cond.code y_Model_bound b_Model_bound 4 (some .int)
abbrev w_Model_bound : List Cond := c0_Model_bound :: wd
abbrev c0_Model_costs : Cond := Cond.code y_Model_costs b_Model_costs 2 (some .int)
abbrev w_Model_costs : List Cond := c0_Model_costs :: wd
abbrev c0_Model_thunk : Cond := Cond.code y_Model_thunk b_Model_thunk 2 (some .int)
abbrev w_Model_thunk : List Cond := c0_Model_thunk :: wd
abbrev c0_Model_result : Cond := Cond.code y_Model_result b_Model_result 2 (some .int)
abbrev w_Model_result : List Cond := c0_Model_result :: wd
abbrev c0_Model_into : Cond := Cond.code y_Model_into b_Model_into 3 (some .int)
abbrev w_Model_into : List Cond := c0_Model_into :: wd
abbrev c0_Model_apply : Cond := Cond.code y_Model_apply b_Model_apply 4 (some .int)
abbrev w_Model_apply : List Cond := c0_Model_apply :: wd
abbrev c0_Model_count : Cond := Cond.code y_Model_count b_Model_count 3 (some .int)
abbrev w_Model_count : List Cond := c0_Model_count :: wd
