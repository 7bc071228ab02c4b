def AW : List Cond := lw_tbl.filter goodWord
theorem mem_AW {w : Cond} {i : Nat} (h : lw_tbl[i]? = some w) (g : goodWord w = true) : w ∈ AW := List.mem_filter.mpr ⟨List.mem_of_getElem? h, g⟩
theorem AW_tbl {w : Cond} (h : w ∈ AW) : w ∈ lw_tbl := (List.mem_filter.mp h).1
theorem AW_good {w : Cond} (h : w ∈ AW) : (w.onTables && w.keeps) = true ∨ ∃ ty, w = .arrayClass ty := good_of_word (List.mem_filter.mp h).2
theorem mc {w c : Cond} (h : w ∈ AW) : w ∈ c :: AW := List.mem_cons_of_mem _ h
theorem g_C {c c' : Cond} (h : c' ∈ AW) : GoodIn (c :: AW) (c' :: AW) := fun w hw => (List.mem_cons.mp hw).elim (fun e => e ▸ ⟨mc h, AW_good h⟩) (fun q => ⟨mc q, AW_good q⟩)
theorem g_V {c c' : Cond} {own C : String} {idx : Nat} {y : MethodName} (h1 : Cond.methodLink own idx y ∈ AW) (h2 : Cond.instanceMethod y ∈ AW) (h3 : Cond.selects C y y ∈ AW) (h4 : Cond.initialized C ∈ AW) (h : c' ∈ AW) : GoodIn (c :: AW) (wsV own idx C y (c' :: AW)) := by
  intro w hw
  rcases List.mem_append.mp hw with q | q
  · simp only [List.mem_cons, List.not_mem_nil, or_false] at q
    rcases q with rfl | rfl | rfl | rfl
    · exact ⟨mc h1, AW_good h1⟩
    · exact ⟨mc h2, AW_good h2⟩
    · exact ⟨mc h3, AW_good h3⟩
    · exact ⟨mc h4, AW_good h4⟩
  · exact g_C h w q
theorem g_S {c c' : Cond} {own : String} {idx : Nat} {y : MethodName} (h1 : Cond.methodLink own idx y ∈ AW) (h2 : Cond.static y ∈ AW) (h4 : Cond.initialized own ∈ AW) (h : c' ∈ AW) : GoodIn (c :: AW) (wsS own idx y (c' :: AW)) := by
  intro w hw
  rcases List.mem_append.mp hw with q | q
  · simp only [List.mem_cons, List.not_mem_nil, or_false] at q
    rcases q with rfl | rfl | rfl
    · exact ⟨mc h1, AW_good h1⟩
    · exact ⟨mc h2, AW_good h2⟩
    · exact ⟨mc h4, AW_good h4⟩
  · exact g_C h w q
def R_G : String := "FlowGate"
def T_G : u_T := fun k => match k with
  | 0 => ("FlowGate", "types", "LFlowGate$Types;", true)
  | 1 => ("FlowGate", "method", "LFlowGate$Method;", true)
  | 2 => ("FlowGate", "form", "LFlowGate$Form;", true)
  | 3 => ("FlowGate", "flow", "LFlowGate$Flow;", true)
  | 4 => ("FlowGate", "place", "I", false)
  | _ => ("FlowGate", "passed", "I", false)
def ty_G : Nat → FieldType := fun k => match k with
  | 0 => .object "FlowGate$Types"
  | 1 => .object "FlowGate$Method"
  | 2 => .object "FlowGate$Form"
  | 3 => .object "FlowGate$Flow"
  | 4 => .int
  | _ => .int
theorem nm_G : ∀ a, a < 6 → ∀ b, b < 6 → a ≠ b → (T_G a).2.1 ≠ (T_G b).2.1 := by decide +kernel
theorem ty_G_ok : ∀ k, k < 6 → parseFieldDescriptor (T_G k).2.2.1 = some (ty_G k) := by decide +kernel
theorem in_G : ∀ w ∈ u_ws "FlowGate" T_G 6, w ∈ AW := by
  intro w hw
  have h : u_ws "FlowGate" T_G 6 = ([271, 273, 275, 277, 279, 281] : List Nat).filterMap (fun i => lw_tbl[i]?) := by decide +kernel
  have hg : (u_ws "FlowGate" T_G 6).all goodWord = true := by decide +kernel
  have g := List.all_eq_true.mp hg w hw
  rw [h] at hw
  obtain ⟨i, -, hi⟩ := List.mem_filterMap.mp hw
  exact mem_AW hi g
def R_T : String := "FlowGate$Types"
def T_T : u_T := fun k => match k with
  | 0 => ("FlowGate$Types", "upward", "[I", true)
  | 1 => ("FlowGate$Types", "isInterface", "[Z", true)
  | _ => ("FlowGate$Types", "size", "I", false)
def ty_T : Nat → FieldType := fun k => match k with
  | 0 => .array (.int)
  | 1 => .array (.boolean)
  | _ => .int
theorem nm_T : ∀ a, a < 3 → ∀ b, b < 3 → a ≠ b → (T_T a).2.1 ≠ (T_T b).2.1 := by decide +kernel
theorem ty_T_ok : ∀ k, k < 3 → parseFieldDescriptor (T_T k).2.2.1 = some (ty_T k) := by decide +kernel
theorem in_T : ∀ w ∈ u_ws "FlowGate$Types" T_T 3, w ∈ AW := by
  intro w hw
  have h : u_ws "FlowGate$Types" T_T 3 = ([91, 93, 95] : List Nat).filterMap (fun i => lw_tbl[i]?) := by decide +kernel
  have hg : (u_ws "FlowGate$Types" T_T 3).all goodWord = true := by decide +kernel
  have g := List.all_eq_true.mp hg w hw
  rw [h] at hw
  obtain ⟨i, -, hi⟩ := List.mem_filterMap.mp hw
  exact mem_AW hi g
def R_M : String := "FlowGate$Method"
def T_M : u_T := fun k => match k with
  | 0 => ("FlowGate$Method", "op", "[I", true)
  | 1 => ("FlowGate$Method", "a", "[I", true)
  | 2 => ("FlowGate$Method", "b", "[I", true)
  | 3 => ("FlowGate$Method", "size", "I", false)
  | 4 => ("FlowGate$Method", "from", "[I", true)
  | 5 => ("FlowGate$Method", "to", "[I", true)
  | 6 => ("FlowGate$Method", "at", "[I", true)
  | 7 => ("FlowGate$Method", "caught", "[I", true)
  | 8 => ("FlowGate$Method", "handlerCount", "I", false)
  | 9 => ("FlowGate$Method", "arguments", "[I", true)
  | 10 => ("FlowGate$Method", "argumentCount", "I", false)
  | 11 => ("FlowGate$Method", "result", "I", false)
  | 12 => ("FlowGate$Method", "locals", "I", false)
  | _ => ("FlowGate$Method", "stack", "I", false)
def ty_M : Nat → FieldType := fun k => match k with
  | 0 => .array (.int)
  | 1 => .array (.int)
  | 2 => .array (.int)
  | 3 => .int
  | 4 => .array (.int)
  | 5 => .array (.int)
  | 6 => .array (.int)
  | 7 => .array (.int)
  | 8 => .int
  | 9 => .array (.int)
  | 10 => .int
  | 11 => .int
  | 12 => .int
  | _ => .int
theorem nm_M : ∀ a, a < 14 → ∀ b, b < 14 → a ≠ b → (T_M a).2.1 ≠ (T_M b).2.1 := by decide +kernel
theorem ty_M_ok : ∀ k, k < 14 → parseFieldDescriptor (T_M k).2.2.1 = some (ty_M k) := by decide +kernel
theorem in_M : ∀ w ∈ u_ws "FlowGate$Method" T_M 14, w ∈ AW := by
  intro w hw
  have h : u_ws "FlowGate$Method" T_M 14 = ([148, 150, 152, 154, 156, 158, 160, 162, 164, 166, 168, 170, 172, 174] : List Nat).filterMap (fun i => lw_tbl[i]?) := by decide +kernel
  have hg : (u_ws "FlowGate$Method" T_M 14).all goodWord = true := by decide +kernel
  have g := List.all_eq_true.mp hg w hw
  rw [h] at hw
  obtain ⟨i, -, hi⟩ := List.mem_filterMap.mp hw
  exact mem_AW hi g
def R_O : String := "FlowGate$Form"
def T_O : u_T := fun k => match k with
  | 0 => ("FlowGate$Form", "types", "LFlowGate$Types;", true)
  | _ => ("FlowGate$Form", "method", "LFlowGate$Method;", true)
def ty_O : Nat → FieldType := fun k => match k with
  | 0 => .object "FlowGate$Types"
  | _ => .object "FlowGate$Method"
theorem nm_O : ∀ a, a < 2 → ∀ b, b < 2 → a ≠ b → (T_O a).2.1 ≠ (T_O b).2.1 := by decide +kernel
theorem ty_O_ok : ∀ k, k < 2 → parseFieldDescriptor (T_O k).2.2.1 = some (ty_O k) := by decide +kernel
theorem in_O : ∀ w ∈ u_ws "FlowGate$Form" T_O 2, w ∈ AW := by
  intro w hw
  have h : u_ws "FlowGate$Form" T_O 2 = ([185, 187] : List Nat).filterMap (fun i => lw_tbl[i]?) := by decide +kernel
  have hg : (u_ws "FlowGate$Form" T_O 2).all goodWord = true := by decide +kernel
  have g := List.all_eq_true.mp hg w hw
  rw [h] at hw
  obtain ⟨i, -, hi⟩ := List.mem_filterMap.mp hw
  exact mem_AW hi g
def R_W : String := "FlowGate$Flow"
def T_W : u_T := fun k => match k with
  | 0 => ("FlowGate$Flow", "types", "LFlowGate$Types;", true)
  | 1 => ("FlowGate$Flow", "method", "LFlowGate$Method;", true)
  | 2 => ("FlowGate$Flow", "frames", "[LFlowGate$Frame;", true)
  | 3 => ("FlowGate$Flow", "reached", "[Z", true)
  | 4 => ("FlowGate$Flow", "changed", "[Z", true)
  | 5 => ("FlowGate$Flow", "doneFor", "[J", true)
  | 6 => ("FlowGate$Flow", "out", "LFlowGate$Frame;", true)
  | 7 => ("FlowGate$Flow", "coming", "LFlowGate$Frame;", true)
  | 8 => ("FlowGate$Flow", "looks", "I", false)
  | 9 => ("FlowGate$Flow", "place", "I", false)
  | 10 => ("FlowGate$Flow", "reachedCount", "I", false)
  | _ => ("FlowGate$Flow", "begunSubs", "J", false)
def ty_W : Nat → FieldType := fun k => match k with
  | 0 => .object "FlowGate$Types"
  | 1 => .object "FlowGate$Method"
  | 2 => .array (.object "FlowGate$Frame")
  | 3 => .array (.boolean)
  | 4 => .array (.boolean)
  | 5 => .array (.long)
  | 6 => .object "FlowGate$Frame"
  | 7 => .object "FlowGate$Frame"
  | 8 => .int
  | 9 => .int
  | 10 => .int
  | _ => .long
theorem nm_W : ∀ a, a < 12 → ∀ b, b < 12 → a ≠ b → (T_W a).2.1 ≠ (T_W b).2.1 := by decide +kernel
theorem ty_W_ok : ∀ k, k < 12 → parseFieldDescriptor (T_W k).2.2.1 = some (ty_W k) := by decide +kernel
theorem in_W : ∀ w ∈ u_ws "FlowGate$Flow" T_W 12, w ∈ AW := by
  intro w hw
  have h : u_ws "FlowGate$Flow" T_W 12 = ([240, 242, 244, 246, 248, 250, 252, 254, 256, 258, 260, 262] : List Nat).filterMap (fun i => lw_tbl[i]?) := by decide +kernel
  have hg : (u_ws "FlowGate$Flow" T_W 12).all goodWord = true := by decide +kernel
  have g := List.all_eq_true.mp hg w hw
  rw [h] at hw
  obtain ⟨i, -, hi⟩ := List.mem_filterMap.mp hw
  exact mem_AW hi g
def R_R : String := "FlowGate$Frame"
def T_R : u_T := fun k => match k with
  | 0 => ("FlowGate$Frame", "locals", "[I", true)
  | 1 => ("FlowGate$Frame", "stack", "[I", true)
  | 2 => ("FlowGate$Frame", "depth", "I", false)
  | 3 => ("FlowGate$Frame", "subs", "J", false)
  | _ => ("FlowGate$Frame", "touched", "[I", true)
def ty_R : Nat → FieldType := fun k => match k with
  | 0 => .array (.int)
  | 1 => .array (.int)
  | 2 => .int
  | 3 => .long
  | _ => .array (.int)
theorem nm_R : ∀ a, a < 5 → ∀ b, b < 5 → a ≠ b → (T_R a).2.1 ≠ (T_R b).2.1 := by decide +kernel
theorem ty_R_ok : ∀ k, k < 5 → parseFieldDescriptor (T_R k).2.2.1 = some (ty_R k) := by decide +kernel
theorem in_R : ∀ w ∈ u_ws "FlowGate$Frame" T_R 5, w ∈ AW := by
  intro w hw
  have h : u_ws "FlowGate$Frame" T_R 5 = ([210, 212, 214, 216, 218] : List Nat).filterMap (fun i => lw_tbl[i]?) := by decide +kernel
  have hg : (u_ws "FlowGate$Frame" T_R 5).all goodWord = true := by decide +kernel
  have g := List.all_eq_true.mp hg w hw
  rw [h] at hw
  obtain ⟨i, -, hi⟩ := List.mem_filterMap.mp hw
  exact mem_AW hi g
def R_D : String := "FlowGateModel"
def T_D : u_T := fun k => match k with
  | 0 => ("FlowGateModel", "above", "[I", true)
  | 1 => ("FlowGateModel", "face", "[Z", true)
  | 2 => ("FlowGateModel", "classes", "I", false)
  | 3 => ("FlowGateModel", "ops", "[I", true)
  | 4 => ("FlowGateModel", "as", "[I", true)
  | 5 => ("FlowGateModel", "bs", "[I", true)
  | 6 => ("FlowGateModel", "from", "[I", true)
  | 7 => ("FlowGateModel", "to", "[I", true)
  | 8 => ("FlowGateModel", "at", "[I", true)
  | 9 => ("FlowGateModel", "caught", "[I", true)
  | 10 => ("FlowGateModel", "arguments", "[I", true)
  | 11 => ("FlowGateModel", "many", "I", false)
  | 12 => ("FlowGateModel", "handlers", "I", false)
  | 13 => ("FlowGateModel", "given", "I", false)
  | 14 => ("FlowGateModel", "result", "I", false)
  | 15 => ("FlowGateModel", "locals", "I", false)
  | 16 => ("FlowGateModel", "room", "I", false)
  | 17 => ("FlowGateModel", "has", "[Z", true)
  | 18 => ("FlowGateModel", "changed", "[Z", true)
  | 19 => ("FlowGateModel", "local", "[I", true)
  | 20 => ("FlowGateModel", "stack", "[I", true)
  | 21 => ("FlowGateModel", "depth", "[I", true)
  | 22 => ("FlowGateModel", "touched", "[I", true)
  | 23 => ("FlowGateModel", "subs", "[J", true)
  | 24 => ("FlowGateModel", "done", "[J", true)
  | 25 => ("FlowGateModel", "here", "[I", true)
  | 26 => ("FlowGateModel", "pile", "[I", true)
  | 27 => ("FlowGateModel", "touch", "[I", true)
  | 28 => ("FlowGateModel", "there", "[I", true)
  | 29 => ("FlowGateModel", "pileThere", "[I", true)
  | 30 => ("FlowGateModel", "touchThere", "[I", true)
  | 31 => ("FlowGateModel", "high", "I", false)
  | 32 => ("FlowGateModel", "size", "I", false)
  | 33 => ("FlowGateModel", "highThere", "I", false)
  | 34 => ("FlowGateModel", "fault", "I", false)
  | 35 => ("FlowGateModel", "place", "I", false)
  | 36 => ("FlowGateModel", "looked", "I", false)
  | 37 => ("FlowGateModel", "good", "I", false)
  | 38 => ("FlowGateModel", "withState", "I", false)
  | 39 => ("FlowGateModel", "in1", "J", false)
  | 40 => ("FlowGateModel", "subsThere", "J", false)
  | _ => ("FlowGateModel", "begun", "J", false)
def ty_D : Nat → FieldType := fun k => match k with
  | 0 => .array (.int)
  | 1 => .array (.boolean)
  | 2 => .int
  | 3 => .array (.int)
  | 4 => .array (.int)
  | 5 => .array (.int)
  | 6 => .array (.int)
  | 7 => .array (.int)
  | 8 => .array (.int)
  | 9 => .array (.int)
  | 10 => .array (.int)
  | 11 => .int
  | 12 => .int
  | 13 => .int
  | 14 => .int
  | 15 => .int
  | 16 => .int
  | 17 => .array (.boolean)
  | 18 => .array (.boolean)
  | 19 => .array (.int)
  | 20 => .array (.int)
  | 21 => .array (.int)
  | 22 => .array (.int)
  | 23 => .array (.long)
  | 24 => .array (.long)
  | 25 => .array (.int)
  | 26 => .array (.int)
  | 27 => .array (.int)
  | 28 => .array (.int)
  | 29 => .array (.int)
  | 30 => .array (.int)
  | 31 => .int
  | 32 => .int
  | 33 => .int
  | 34 => .int
  | 35 => .int
  | 36 => .int
  | 37 => .int
  | 38 => .int
  | 39 => .long
  | 40 => .long
  | _ => .long
theorem nm_D : ∀ a, a < 42 → ∀ b, b < 42 → a ≠ b → (T_D a).2.1 ≠ (T_D b).2.1 := by decide +kernel
theorem ty_D_ok : ∀ k, k < 42 → parseFieldDescriptor (T_D k).2.2.1 = some (ty_D k) := by decide +kernel
theorem in_D : ∀ w ∈ u_ws "FlowGateModel" T_D 42, w ∈ AW := by
  intro w hw
  have h : u_ws "FlowGateModel" T_D 42 = ([722, 724, 726, 728, 730, 732, 734, 736, 738, 740, 742, 744, 746, 748, 750, 752, 754, 756, 758, 760, 762, 764, 766, 768, 770, 772, 774, 776, 778, 780, 782, 784, 786, 788, 790, 792, 794, 796, 798, 800, 802, 804] : List Nat).filterMap (fun i => lw_tbl[i]?) := by decide +kernel
  have hg : (u_ws "FlowGateModel" T_D 42).all goodWord = true := by decide +kernel
  have g := List.all_eq_true.mp hg w hw
  rw [h] at hw
  obtain ⟨i, -, hi⟩ := List.mem_filterMap.mp hw
  exact mem_AW hi g
abbrev vwCl : List vw_C := [("FlowGate", T_G, 6), ("FlowGate$Types", T_T, 3), ("FlowGate$Method", T_M, 14), ("FlowGate$Form", T_O, 2), ("FlowGate$Flow", T_W, 12), ("FlowGate$Frame", T_R, 5), ("FlowGateModel", T_D, 42)]
def y_G_init : MethodName := ⟨"FlowGate", "<init>", "()V"⟩
abbrev c_G_init : ByteArray := prog_1_method_1_code
abbrev ws_G_init : List Cond := .code y_G_init c_G_init 1 none :: AW
def y_T_init : MethodName := ⟨"FlowGate$Types", "<init>", "()V"⟩
abbrev c_T_init : ByteArray := prog_6_method_1_code
abbrev ws_T_init : List Cond := .code y_T_init c_T_init 1 none :: AW
def y_M_init : MethodName := ⟨"FlowGate$Method", "<init>", "()V"⟩
abbrev c_M_init : ByteArray := prog_5_method_1_code
abbrev ws_M_init : List Cond := .code y_M_init c_M_init 1 none :: AW
def y_O_init : MethodName := ⟨"FlowGate$Form", "<init>", "(LFlowGate$Types;LFlowGate$Method;)V"⟩
abbrev c_O_init : ByteArray := prog_3_method_1_code
abbrev ws_O_init : List Cond := .code y_O_init c_O_init 3 none :: AW
def y_W_init : MethodName := ⟨"FlowGate$Flow", "<init>", "(LFlowGate$Types;LFlowGate$Method;)V"⟩
abbrev c_W_init : ByteArray := prog_2_method_1_code
abbrev ws_W_init : List Cond := .code y_W_init c_W_init 4 none :: AW
def y_R_init : MethodName := ⟨"FlowGate$Frame", "<init>", "()V"⟩
abbrev c_R_init : ByteArray := prog_4_method_1_code
abbrev ws_R_init : List Cond := .code y_R_init c_R_init 1 none :: AW
def y_G_cls : MethodName := ⟨"FlowGate", "cls", "(IZ)I"⟩
abbrev c_G_cls : ByteArray := prog_1_method_2_code
abbrev ws_G_cls : List Cond := .code y_G_cls c_G_cls 3 (some .int) :: AW
def y_T_hasClass : MethodName := ⟨"FlowGate$Types", "hasClass", "(I)Z"⟩
abbrev c_T_hasClass : ByteArray := prog_6_method_3_code
abbrev ws_T_hasClass : List Cond := .code y_T_hasClass c_T_hasClass 2 (some .boolean) :: AW
def y_T_append : MethodName := ⟨"FlowGate$Types", "append", "(IZ)I"⟩
abbrev c_T_append : ByteArray := prog_6_method_2_code
abbrev ws_T_append : List Cond := .code y_T_append c_T_append 3 (some .int) :: AW
def y_G_begin : MethodName := ⟨"FlowGate", "begin", "(III)I"⟩
abbrev c_G_begin : ByteArray := prog_1_method_3_code
abbrev ws_G_begin : List Cond := .code y_G_begin c_G_begin 4 (some .int) :: AW
def y_T_isValue : MethodName := ⟨"FlowGate$Types", "isValue", "(I)Z"⟩
abbrev c_T_isValue : ByteArray := prog_6_method_8_code
abbrev ws_T_isValue : List Cond := .code y_T_isValue c_T_isValue 2 (some .boolean) :: AW
def y_T_isRef : MethodName := ⟨"FlowGate$Types", "isRef", "(I)Z"⟩
abbrev c_T_isRef : ByteArray := prog_6_method_5_code
abbrev ws_T_isRef : List Cond := .code y_T_isRef c_T_isRef 4 (some .boolean) :: AW
def y_M_restart : MethodName := ⟨"FlowGate$Method", "restart", "(III)V"⟩
abbrev c_M_restart : ByteArray := prog_5_method_2_code
abbrev ws_M_restart : List Cond := .code y_M_restart c_M_restart 4 none :: AW
def y_G_argument : MethodName := ⟨"FlowGate", "argument", "(I)I"⟩
abbrev c_G_argument : ByteArray := prog_1_method_4_code
abbrev ws_G_argument : List Cond := .code y_G_argument c_G_argument 2 (some .int) :: AW
def y_M_appendArgument : MethodName := ⟨"FlowGate$Method", "appendArgument", "(I)I"⟩
abbrev c_M_appendArgument : ByteArray := prog_5_method_5_code
abbrev ws_M_appendArgument : List Cond := .code y_M_appendArgument c_M_appendArgument 2 (some .int) :: AW
def y_G_add : MethodName := ⟨"FlowGate", "add", "(III)I"⟩
abbrev c_G_add : ByteArray := prog_1_method_5_code
abbrev ws_G_add : List Cond := .code y_G_add c_G_add 4 (some .int) :: AW
def y_G_isOp : MethodName := ⟨"FlowGate", "isOp", "(I)Z"⟩
abbrev c_G_isOp : ByteArray := prog_1_method_14_code
abbrev ws_G_isOp : List Cond := .code y_G_isOp c_G_isOp 1 (some .boolean) :: AW
def y_M_append : MethodName := ⟨"FlowGate$Method", "append", "(III)I"⟩
abbrev c_M_append : ByteArray := prog_5_method_3_code
abbrev ws_M_append : List Cond := .code y_M_append c_M_append 4 (some .int) :: AW
def y_M_write : MethodName := ⟨"FlowGate$Method", "write", "(IIII)V"⟩
abbrev c_M_write : ByteArray := prog_5_method_4_code
abbrev ws_M_write : List Cond := .code y_M_write c_M_write 5 none :: AW
def y_G_change : MethodName := ⟨"FlowGate", "change", "(IIII)I"⟩
abbrev c_G_change : ByteArray := prog_1_method_6_code
abbrev ws_G_change : List Cond := .code y_G_change c_G_change 6 (some .int) :: AW
def y_M_hasInstruction : MethodName := ⟨"FlowGate$Method", "hasInstruction", "(I)Z"⟩
abbrev c_M_hasInstruction : ByteArray := prog_5_method_7_code
abbrev ws_M_hasInstruction : List Cond := .code y_M_hasInstruction c_M_hasInstruction 2 (some .boolean) :: AW
def y_G_handler : MethodName := ⟨"FlowGate", "handler", "(IIII)I"⟩
abbrev c_G_handler : ByteArray := prog_1_method_7_code
abbrev ws_G_handler : List Cond := .code y_G_handler c_G_handler 5 (some .int) :: AW
def y_M_appendHandler : MethodName := ⟨"FlowGate$Method", "appendHandler", "(IIII)I"⟩
abbrev c_M_appendHandler : ByteArray := prog_5_method_6_code
abbrev ws_M_appendHandler : List Cond := .code y_M_appendHandler c_M_appendHandler 5 (some .int) :: AW
def y_G_verify : MethodName := ⟨"FlowGate", "verify", "()I"⟩
abbrev c_G_verify : ByteArray := prog_1_method_8_code
abbrev ws_G_verify : List Cond := .code y_G_verify c_G_verify 2 (some .int) :: AW
def y_W_forget : MethodName := ⟨"FlowGate$Flow", "forget", "()V"⟩
abbrev c_W_forget : ByteArray := prog_2_method_2_code
abbrev ws_W_forget : List Cond := .code y_W_forget c_W_forget 2 none :: AW
def y_JA_fillJ : MethodName := ⟨"java/util/Arrays", "fill", "([JJ)V"⟩
abbrev c_JA_fillJ : ByteArray := prog_11_method_101_code
abbrev ws_JA_fillJ : List Cond := .code y_JA_fillJ c_JA_fillJ 5 none :: AW
def y_O_findFault : MethodName := ⟨"FlowGate$Form", "findFault", "()I"⟩
abbrev c_O_findFault : ByteArray := prog_3_method_2_code
abbrev ws_O_findFault : List Cond := .code y_O_findFault c_O_findFault 2 (some .int) :: AW
def y_O_isWellFormed : MethodName := ⟨"FlowGate$Form", "isWellFormed", "(III)Z"⟩
abbrev c_O_isWellFormed : ByteArray := prog_3_method_3_code
abbrev ws_O_isWellFormed : List Cond := .code y_O_isWellFormed c_O_isWellFormed 4 (some .boolean) :: AW
def y_M_hasLocal : MethodName := ⟨"FlowGate$Method", "hasLocal", "(I)Z"⟩
abbrev c_M_hasLocal : ByteArray := prog_5_method_8_code
abbrev ws_M_hasLocal : List Cond := .code y_M_hasLocal c_M_hasLocal 2 (some .boolean) :: AW
def y_O_isNumber : MethodName := ⟨"FlowGate$Form", "isNumber", "(I)Z"⟩
abbrev c_O_isNumber : ByteArray := prog_3_method_4_code
abbrev ws_O_isNumber : List Cond := .code y_O_isNumber c_O_isNumber 1 (some .boolean) :: AW
def y_T_isRow : MethodName := ⟨"FlowGate$Types", "isRow", "(I)Z"⟩
abbrev c_T_isRow : ByteArray := prog_6_method_6_code
abbrev ws_T_isRow : List Cond := .code y_T_isRow c_T_isRow 2 (some .boolean) :: AW
def y_O_isHandlerWellFormed : MethodName := ⟨"FlowGate$Form", "isHandlerWellFormed", "(I)Z"⟩
abbrev c_O_isHandlerWellFormed : ByteArray := prog_3_method_5_code
abbrev ws_O_isHandlerWellFormed : List Cond := .code y_O_isHandlerWellFormed c_O_isHandlerWellFormed 4 (some .boolean) :: AW
def y_T_isBelow : MethodName := ⟨"FlowGate$Types", "isBelow", "(II)Z"⟩
abbrev c_T_isBelow : ByteArray := prog_6_method_4_code
abbrev ws_T_isBelow : List Cond := .code y_T_isBelow c_T_isBelow 3 (some .boolean) :: AW
def y_O_haveArgumentsRoom : MethodName := ⟨"FlowGate$Form", "haveArgumentsRoom", "()Z"⟩
abbrev c_O_haveArgumentsRoom : ByteArray := prog_3_method_6_code
abbrev ws_O_haveArgumentsRoom : List Cond := .code y_O_haveArgumentsRoom c_O_haveArgumentsRoom 3 (some .boolean) :: AW
def y_G_widthOf : MethodName := ⟨"FlowGate", "widthOf", "(I)I"⟩
abbrev c_G_widthOf : ByteArray := prog_1_method_16_code
abbrev ws_G_widthOf : List Cond := .code y_G_widthOf c_G_widthOf 1 (some .int) :: AW
def y_W_run : MethodName := ⟨"FlowGate$Flow", "run", "()I"⟩
abbrev c_W_run : ByteArray := prog_2_method_3_code
abbrev ws_W_run : List Cond := .code y_W_run c_W_run 3 (some .int) :: AW
def y_R_start : MethodName := ⟨"FlowGate$Frame", "start", "(LFlowGate$Method;)V"⟩
abbrev c_R_start : ByteArray := prog_4_method_3_code
abbrev ws_R_start : List Cond := .code y_R_start c_R_start 4 none :: AW
def y_JA_fillI : MethodName := ⟨"java/util/Arrays", "fill", "([II)V"⟩
abbrev c_JA_fillI : ByteArray := prog_11_method_103_code
abbrev ws_JA_fillI : List Cond := .code y_JA_fillI c_JA_fillI 4 none :: AW
def y_W_meet : MethodName := ⟨"FlowGate$Flow", "meet", "(IILFlowGate$Frame;)I"⟩
abbrev c_W_meet : ByteArray := prog_2_method_7_code
abbrev ws_W_meet : List Cond := .code y_W_meet c_W_meet 4 (some .int) :: AW
def y_R_hasRaw : MethodName := ⟨"FlowGate$Frame", "hasRaw", "()Z"⟩
abbrev c_R_hasRaw : ByteArray := prog_4_method_18_code
abbrev ws_R_hasRaw : List Cond := .code y_R_hasRaw c_R_hasRaw 2 (some .boolean) :: AW
def y_G_isRaw : MethodName := ⟨"FlowGate", "isRaw", "(I)Z"⟩
abbrev c_G_isRaw : ByteArray := prog_1_method_17_code
abbrev ws_G_isRaw : List Cond := .code y_G_isRaw c_G_isRaw 1 (some .boolean) :: AW
def y_R_hasRawLocal : MethodName := ⟨"FlowGate$Frame", "hasRawLocal", "()Z"⟩
abbrev c_R_hasRawLocal : ByteArray := prog_4_method_17_code
abbrev ws_R_hasRawLocal : List Cond := .code y_R_hasRawLocal c_R_hasRawLocal 2 (some .boolean) :: AW
def y_W_reach : MethodName := ⟨"FlowGate$Flow", "reach", "(ILFlowGate$Frame;)V"⟩
abbrev c_W_reach : ByteArray := prog_2_method_8_code
abbrev ws_W_reach : List Cond := .code y_W_reach c_W_reach 3 none :: AW
def y_R_copy : MethodName := ⟨"FlowGate$Frame", "copy", "(LFlowGate$Frame;)V"⟩
abbrev c_R_copy : ByteArray := prog_4_method_2_code
abbrev ws_R_copy : List Cond := .code y_R_copy c_R_copy 2 none :: AW
def y_R_absorb : MethodName := ⟨"FlowGate$Frame", "absorb", "(LFlowGate$Frame;LFlowGate$Types;)Z"⟩
abbrev c_R_absorb : ByteArray := prog_4_method_19_code
abbrev ws_R_absorb : List Cond := .code y_R_absorb c_R_absorb 6 (some .boolean) :: AW
def y_R_absorbSubs : MethodName := ⟨"FlowGate$Frame", "absorbSubs", "(LFlowGate$Frame;)Z"⟩
abbrev c_R_absorbSubs : ByteArray := prog_4_method_20_code
abbrev ws_R_absorbSubs : List Cond := .code y_R_absorbSubs c_R_absorbSubs 7 (some .boolean) :: AW
def y_R_isIn : MethodName := ⟨"FlowGate$Frame", "isIn", "(I)Z"⟩
abbrev c_R_isIn : ByteArray := prog_4_method_13_code
abbrev ws_R_isIn : List Cond := .code y_R_isIn c_R_isIn 2 (some .boolean) :: AW
def y_T_joined : MethodName := ⟨"FlowGate$Types", "joined", "(II)I"⟩
abbrev c_T_joined : ByteArray := prog_6_method_11_code
abbrev ws_T_joined : List Cond := .code y_T_joined c_T_joined 8 (some .int) :: AW
def y_T_joinedClasses : MethodName := ⟨"FlowGate$Types", "joinedClasses", "(II)I"⟩
abbrev c_T_joinedClasses : ByteArray := prog_6_method_12_code
abbrev ws_T_joinedClasses : List Cond := .code y_T_joinedClasses c_T_joinedClasses 5 (some .int) :: AW
def y_W_look : MethodName := ⟨"FlowGate$Flow", "look", "(I)I"⟩
abbrev c_W_look : ByteArray := prog_2_method_5_code
abbrev ws_W_look : List Cond := .code y_W_look c_W_look 3 (some .int) :: AW
def y_W_meetHandlers : MethodName := ⟨"FlowGate$Flow", "meetHandlers", "(I)I"⟩
abbrev c_W_meetHandlers : ByteArray := prog_2_method_6_code
abbrev ws_W_meetHandlers : List Cond := .code y_W_meetHandlers c_W_meetHandlers 4 (some .int) :: AW
def y_M_covers : MethodName := ⟨"FlowGate$Method", "covers", "(II)Z"⟩
abbrev c_M_covers : ByteArray := prog_5_method_9_code
abbrev ws_M_covers : List Cond := .code y_M_covers c_M_covers 3 (some .boolean) :: AW
def y_R_catchIn : MethodName := ⟨"FlowGate$Frame", "catchIn", "(LFlowGate$Frame;I)V"⟩
abbrev c_R_catchIn : ByteArray := prog_4_method_4_code
abbrev ws_R_catchIn : List Cond := .code y_R_catchIn c_R_catchIn 3 none :: AW
def y_W_perform : MethodName := ⟨"FlowGate$Flow", "perform", "(I)I"⟩
abbrev c_W_perform : ByteArray := prog_2_method_12_code
abbrev ws_W_perform : List Cond := .code y_W_perform c_W_perform 5 (some .int) :: AW
def y_W_load : MethodName := ⟨"FlowGate$Flow", "load", "(I)I"⟩
abbrev c_W_load : ByteArray := prog_2_method_16_code
abbrev ws_W_load : List Cond := .code y_W_load c_W_load 3 (some .int) :: AW
def y_G_isReturn : MethodName := ⟨"FlowGate", "isReturn", "(I)Z"⟩
abbrev c_G_isReturn : ByteArray := prog_1_method_18_code
abbrev ws_G_isReturn : List Cond := .code y_G_isReturn c_G_isReturn 1 (some .boolean) :: AW
def y_W_fitsLocal : MethodName := ⟨"FlowGate$Flow", "fitsLocal", "(II)Z"⟩
abbrev c_W_fitsLocal : ByteArray := prog_2_method_15_code
abbrev ws_W_fitsLocal : List Cond := .code y_W_fitsLocal c_W_fitsLocal 3 (some .boolean) :: AW
def y_R_touch : MethodName := ⟨"FlowGate$Frame", "touch", "(II)V"⟩
abbrev c_R_touch : ByteArray := prog_4_method_11_code
abbrev ws_R_touch : List Cond := .code y_R_touch c_R_touch 3 none :: AW
def y_G_isWide : MethodName := ⟨"FlowGate", "isWide", "(I)Z"⟩
abbrev c_G_isWide : ByteArray := prog_1_method_15_code
abbrev ws_G_isWide : List Cond := .code y_G_isWide c_G_isWide 1 (some .boolean) :: AW
def y_R_touchAll : MethodName := ⟨"FlowGate$Frame", "touchAll", "(I)V"⟩
abbrev c_R_touchAll : ByteArray := prog_4_method_12_code
abbrev ws_R_touchAll : List Cond := .code y_R_touchAll c_R_touchAll 3 none :: AW
def y_R_push : MethodName := ⟨"FlowGate$Frame", "push", "(II)I"⟩
abbrev c_R_push : ByteArray := prog_4_method_9_code
abbrev ws_R_push : List Cond := .code y_R_push c_R_push 5 (some .int) :: AW
def y_W_store : MethodName := ⟨"FlowGate$Flow", "store", "(I)I"⟩
abbrev c_W_store : ByteArray := prog_2_method_17_code
abbrev ws_W_store : List Cond := .code y_W_store c_W_store 3 (some .int) :: AW
def y_R_top : MethodName := ⟨"FlowGate$Frame", "top", "(I)I"⟩
abbrev c_R_top : ByteArray := prog_4_method_6_code
abbrev ws_R_top : List Cond := .code y_R_top c_R_top 2 (some .int) :: AW
def y_R_drop : MethodName := ⟨"FlowGate$Frame", "drop", "(I)V"⟩
abbrev c_R_drop : ByteArray := prog_4_method_8_code
abbrev ws_R_drop : List Cond := .code y_R_drop c_R_drop 2 none :: AW
def y_R_store : MethodName := ⟨"FlowGate$Frame", "store", "(II)V"⟩
abbrev c_R_store : ByteArray := prog_4_method_10_code
abbrev ws_R_store : List Cond := .code y_R_store c_R_store 3 none :: AW
def y_W_increase : MethodName := ⟨"FlowGate$Flow", "increase", "(I)I"⟩
abbrev c_W_increase : ByteArray := prog_2_method_18_code
abbrev ws_W_increase : List Cond := .code y_W_increase c_W_increase 2 (some .int) :: AW
def y_W_prepareReturn : MethodName := ⟨"FlowGate$Flow", "prepareReturn", "(II)I"⟩
abbrev c_W_prepareReturn : ByteArray := prog_2_method_19_code
abbrev ws_W_prepareReturn : List Cond := .code y_W_prepareReturn c_W_prepareReturn 5 (some .int) :: AW
def y_W_shuffle : MethodName := ⟨"FlowGate$Flow", "shuffle", "(I)I"⟩
abbrev c_W_shuffle : ByteArray := prog_2_method_21_code
abbrev ws_W_shuffle : List Cond := .code y_W_shuffle c_W_shuffle 5 (some .int) :: AW
def y_R_hasNarrow : MethodName := ⟨"FlowGate$Frame", "hasNarrow", "(I)Z"⟩
abbrev c_R_hasNarrow : ByteArray := prog_4_method_7_code
abbrev ws_R_hasNarrow : List Cond := .code y_R_hasNarrow c_R_hasNarrow 2 (some .boolean) :: AW
def y_W_takeIf : MethodName := ⟨"FlowGate$Flow", "takeIf", "(ZI)I"⟩
abbrev c_W_takeIf : ByteArray := prog_2_method_13_code
abbrev ws_W_takeIf : List Cond := .code y_W_takeIf c_W_takeIf 3 (some .int) :: AW
def y_W_pushBoth : MethodName := ⟨"FlowGate$Flow", "pushBoth", "(II)I"⟩
abbrev c_W_pushBoth : ByteArray := prog_2_method_22_code
abbrev ws_W_pushBoth : List Cond := .code y_W_pushBoth c_W_pushBoth 4 (some .int) :: AW
def y_W_calculate : MethodName := ⟨"FlowGate$Flow", "calculate", "(III)I"⟩
abbrev c_W_calculate : ByteArray := prog_2_method_23_code
abbrev ws_W_calculate : List Cond := .code y_W_calculate c_W_calculate 5 (some .int) :: AW
def y_W_exchangeIf : MethodName := ⟨"FlowGate$Flow", "exchangeIf", "(ZII)I"⟩
abbrev c_W_exchangeIf : ByteArray := prog_2_method_14_code
abbrev ws_W_exchangeIf : List Cond := .code y_W_exchangeIf c_W_exchangeIf 4 (some .int) :: AW
def y_W_decide : MethodName := ⟨"FlowGate$Flow", "decide", "(I)I"⟩
abbrev c_W_decide : ByteArray := prog_2_method_24_code
abbrev ws_W_decide : List Cond := .code y_W_decide c_W_decide 3 (some .int) :: AW
def y_T_isRefOrNull : MethodName := ⟨"FlowGate$Types", "isRefOrNull", "(I)Z"⟩
abbrev c_T_isRefOrNull : ByteArray := prog_6_method_7_code
abbrev ws_T_isRefOrNull : List Cond := .code y_T_isRefOrNull c_T_isRefOrNull 2 (some .boolean) :: AW
def y_T_goesFor : MethodName := ⟨"FlowGate$Types", "goesFor", "(II)Z"⟩
abbrev c_T_goesFor : ByteArray := prog_6_method_10_code
abbrev ws_T_goesFor : List Cond := .code y_T_goesFor c_T_goesFor 6 (some .boolean) :: AW
def y_W_enterSub : MethodName := ⟨"FlowGate$Flow", "enterSub", "(I)I"⟩
abbrev c_W_enterSub : ByteArray := prog_2_method_20_code
abbrev ws_W_enterSub : List Cond := .code y_W_enterSub c_W_enterSub 2 (some .int) :: AW
def y_R_enter : MethodName := ⟨"FlowGate$Frame", "enter", "(I)V"⟩
abbrev c_R_enter : ByteArray := prog_4_method_14_code
abbrev ws_R_enter : List Cond := .code y_R_enter c_R_enter 2 none :: AW
def y_W_create : MethodName := ⟨"FlowGate$Flow", "create", "(I)I"⟩
abbrev c_W_create : ByteArray := prog_2_method_25_code
abbrev ws_W_create : List Cond := .code y_W_create c_W_create 2 (some .int) :: AW
def y_R_isOnStack : MethodName := ⟨"FlowGate$Frame", "isOnStack", "(I)Z"⟩
abbrev c_R_isOnStack : ByteArray := prog_4_method_16_code
abbrev ws_R_isOnStack : List Cond := .code y_R_isOnStack c_R_isOnStack 3 (some .boolean) :: AW
def y_R_replace : MethodName := ⟨"FlowGate$Frame", "replace", "(II)V"⟩
abbrev c_R_replace : ByteArray := prog_4_method_15_code
abbrev ws_R_replace : List Cond := .code y_R_replace c_R_replace 4 none :: AW
def y_W_build : MethodName := ⟨"FlowGate$Flow", "build", "(I)I"⟩
abbrev c_W_build : ByteArray := prog_2_method_26_code
abbrev ws_W_build : List Cond := .code y_W_build c_W_build 3 (some .int) :: AW
def y_W_useObject : MethodName := ⟨"FlowGate$Flow", "useObject", "(III)I"⟩
abbrev c_W_useObject : ByteArray := prog_2_method_27_code
abbrev ws_W_useObject : List Cond := .code y_W_useObject c_W_useObject 5 (some .int) :: AW
def y_W_useRow : MethodName := ⟨"FlowGate$Flow", "useRow", "(II)I"⟩
abbrev c_W_useRow : ByteArray := prog_2_method_28_code
abbrev ws_W_useRow : List Cond := .code y_W_useRow c_W_useRow 4 (some .int) :: AW
def y_W_isRowOf : MethodName := ⟨"FlowGate$Flow", "isRowOf", "(II)Z"⟩
abbrev c_W_isRowOf : ByteArray := prog_2_method_29_code
abbrev ws_W_isRowOf : List Cond := .code y_W_isRowOf c_W_isRowOf 2 (some .boolean) :: AW
def y_W_elementOf : MethodName := ⟨"FlowGate$Flow", "elementOf", "(I)I"⟩
abbrev c_W_elementOf : ByteArray := prog_2_method_30_code
abbrev ws_W_elementOf : List Cond := .code y_W_elementOf c_W_elementOf 1 (some .int) :: AW
def y_W_comeBack : MethodName := ⟨"FlowGate$Flow", "comeBack", "(I)I"⟩
abbrev c_W_comeBack : ByteArray := prog_2_method_11_code
abbrev ws_W_comeBack : List Cond := .code y_W_comeBack c_W_comeBack 5 (some .int) :: AW
def y_R_comeBack : MethodName := ⟨"FlowGate$Frame", "comeBack", "(LFlowGate$Frame;LFlowGate$Frame;I)V"⟩
abbrev c_R_comeBack : ByteArray := prog_4_method_5_code
abbrev ws_R_comeBack : List Cond := .code y_R_comeBack c_R_comeBack 6 none :: AW
def y_W_leave : MethodName := ⟨"FlowGate$Flow", "leave", "(I)I"⟩
abbrev c_W_leave : ByteArray := prog_2_method_9_code
abbrev ws_W_leave : List Cond := .code y_W_leave c_W_leave 4 (some .int) :: AW
def y_W_wakeReturns : MethodName := ⟨"FlowGate$Flow", "wakeReturns", "(I)V"⟩
abbrev c_W_wakeReturns : ByteArray := prog_2_method_10_code
abbrev ws_W_wakeReturns : List Cond := .code y_W_wakeReturns c_W_wakeReturns 3 none :: AW
def y_W_findChanged : MethodName := ⟨"FlowGate$Flow", "findChanged", "()I"⟩
abbrev c_W_findChanged : ByteArray := prog_2_method_4_code
abbrev ws_W_findChanged : List Cond := .code y_W_findChanged c_W_findChanged 2 (some .int) :: AW
def y_G_place : MethodName := ⟨"FlowGate", "place", "()I"⟩
abbrev c_G_place : ByteArray := prog_1_method_9_code
abbrev ws_G_place : List Cond := .code y_G_place c_G_place 1 (some .int) :: AW
def y_G_state : MethodName := ⟨"FlowGate", "state", "(II)I"⟩
abbrev c_G_state : ByteArray := prog_1_method_10_code
abbrev ws_G_state : List Cond := .code y_G_state c_G_state 3 (some .int) :: AW
def y_R_read : MethodName := ⟨"FlowGate$Frame", "read", "(I)I"⟩
abbrev c_R_read : ByteArray := prog_4_method_21_code
abbrev ws_R_read : List Cond := .code y_R_read c_R_read 3 (some .int) :: AW
def y_JL_bitCount : MethodName := ⟨"java/lang/Long", "bitCount", "(J)I"⟩
abbrev c_JL_bitCount : ByteArray := prog_9_method_50_code
abbrev ws_JL_bitCount : List Cond := .code y_JL_bitCount c_JL_bitCount 2 (some .int) :: AW
def y_R_findSub : MethodName := ⟨"FlowGate$Frame", "findSub", "(I)I"⟩
abbrev c_R_findSub : ByteArray := prog_4_method_22_code
abbrev ws_R_findSub : List Cond := .code y_R_findSub c_R_findSub 4 (some .int) :: AW
def y_G_join : MethodName := ⟨"FlowGate", "join", "(II)I"⟩
abbrev c_G_join : ByteArray := prog_1_method_11_code
abbrev ws_G_join : List Cond := .code y_G_join c_G_join 3 (some .int) :: AW
def y_T_isPlain : MethodName := ⟨"FlowGate$Types", "isPlain", "(I)Z"⟩
abbrev c_T_isPlain : ByteArray := prog_6_method_9_code
abbrev ws_T_isPlain : List Cond := .code y_T_isPlain c_T_isPlain 2 (some .boolean) :: AW
def y_G_goes : MethodName := ⟨"FlowGate", "goes", "(II)I"⟩
abbrev c_G_goes : ByteArray := prog_1_method_12_code
abbrev ws_G_goes : List Cond := .code y_G_goes c_G_goes 3 (some .int) :: AW
def y_G_count : MethodName := ⟨"FlowGate", "count", "(I)I"⟩
abbrev c_G_count : ByteArray := prog_1_method_13_code
abbrev ws_G_count : List Cond := .code y_G_count c_G_count 2 (some .int) :: AW
def y_D_init : MethodName := ⟨"FlowGateModel", "<init>", "()V"⟩
abbrev c_D_init : ByteArray := prog_8_method_1_code
abbrev ws_D_init : List Cond := .code y_D_init c_D_init 1 none :: AW
def y_D_cls : MethodName := ⟨"FlowGateModel", "cls", "(IZ)I"⟩
abbrev c_D_cls : ByteArray := prog_8_method_9_code
abbrev ws_D_cls : List Cond := .code y_D_cls c_D_cls 3 (some .int) :: AW
def y_D_in : MethodName := ⟨"FlowGateModel", "in", "(III)Z"⟩
abbrev c_D_in : ByteArray := prog_8_method_2_code
abbrev ws_D_in : List Cond := .code y_D_in c_D_in 3 (some .boolean) :: AW
def y_D_begin : MethodName := ⟨"FlowGateModel", "begin", "(III)I"⟩
abbrev c_D_begin : ByteArray := prog_8_method_11_code
abbrev ws_D_begin : List Cond := .code y_D_begin c_D_begin 4 (some .int) :: AW
def y_D_isPlain : MethodName := ⟨"FlowGateModel", "isPlain", "(I)Z"⟩
abbrev c_D_isPlain : ByteArray := prog_8_method_10_code
abbrev ws_D_isPlain : List Cond := .code y_D_isPlain c_D_isPlain 2 (some .boolean) :: AW
def y_D_isRef : MethodName := ⟨"FlowGateModel", "isRef", "(I)Z"⟩
abbrev c_D_isRef : ByteArray := prog_8_method_4_code
abbrev ws_D_isRef : List Cond := .code y_D_isRef c_D_isRef 2 (some .boolean) :: AW
def y_D_isClass : MethodName := ⟨"FlowGateModel", "isClass", "(I)Z"⟩
abbrev c_D_isClass : ByteArray := prog_8_method_3_code
abbrev ws_D_isClass : List Cond := .code y_D_isClass c_D_isClass 2 (some .boolean) :: AW
def y_D_argument : MethodName := ⟨"FlowGateModel", "argument", "(I)I"⟩
abbrev c_D_argument : ByteArray := prog_8_method_12_code
abbrev ws_D_argument : List Cond := .code y_D_argument c_D_argument 2 (some .int) :: AW
def y_D_add : MethodName := ⟨"FlowGateModel", "add", "(III)I"⟩
abbrev c_D_add : ByteArray := prog_8_method_13_code
abbrev ws_D_add : List Cond := .code y_D_add c_D_add 4 (some .int) :: AW
def y_D_change : MethodName := ⟨"FlowGateModel", "change", "(IIII)I"⟩
abbrev c_D_change : ByteArray := prog_8_method_14_code
abbrev ws_D_change : List Cond := .code y_D_change c_D_change 6 (some .int) :: AW
def y_D_handler : MethodName := ⟨"FlowGateModel", "handler", "(IIII)I"⟩
abbrev c_D_handler : ByteArray := prog_8_method_15_code
abbrev ws_D_handler : List Cond := .code y_D_handler c_D_handler 5 (some .int) :: AW
def y_D_verify : MethodName := ⟨"FlowGateModel", "verify", "()I"⟩
abbrev c_D_verify : ByteArray := prog_8_method_20_code
abbrev ws_D_verify : List Cond := .code y_D_verify c_D_verify 2 (some .int) :: AW
def y_D_form : MethodName := ⟨"FlowGateModel", "form", "()V"⟩
abbrev c_D_form : ByteArray := prog_8_method_19_code
abbrev ws_D_form : List Cond := .code y_D_form c_D_form 3 none :: AW
def y_D_fail : MethodName := ⟨"FlowGateModel", "fail", "(II)V"⟩
abbrev c_D_fail : ByteArray := prog_8_method_18_code
abbrev ws_D_fail : List Cond := .code y_D_fail c_D_fail 3 none :: AW
def y_D_isFormed : MethodName := ⟨"FlowGateModel", "isFormed", "(III)Z"⟩
abbrev c_D_isFormed : ByteArray := prog_8_method_17_code
abbrev ws_D_isFormed : List Cond := .code y_D_isFormed c_D_isFormed 4 (some .boolean) :: AW
def y_D_isGoal : MethodName := ⟨"FlowGateModel", "isGoal", "(I)Z"⟩
abbrev c_D_isGoal : ByteArray := prog_8_method_16_code
abbrev ws_D_isGoal : List Cond := .code y_D_isGoal c_D_isGoal 2 (some .boolean) :: AW
def y_D_isBelow : MethodName := ⟨"FlowGateModel", "isBelow", "(II)Z"⟩
abbrev c_D_isBelow : ByteArray := prog_8_method_6_code
abbrev ws_D_isBelow : List Cond := .code y_D_isBelow c_D_isBelow 4 (some .boolean) :: AW
def y_D_isWide : MethodName := ⟨"FlowGateModel", "isWide", "(I)Z"⟩
abbrev c_D_isWide : ByteArray := prog_8_method_5_code
abbrev ws_D_isWide : List Cond := .code y_D_isWide c_D_isWide 1 (some .boolean) :: AW
def y_D_begins : MethodName := ⟨"FlowGateModel", "begins", "()V"⟩
abbrev c_D_begins : ByteArray := prog_8_method_21_code
abbrev ws_D_begins : List Cond := .code y_D_begins c_D_begins 3 none :: AW
def y_D_meet : MethodName := ⟨"FlowGateModel", "meet", "(I)V"⟩
abbrev c_D_meet : ByteArray := prog_8_method_22_code
abbrev ws_D_meet : List Cond := .code y_D_meet c_D_meet 5 none :: AW
def y_D_joined : MethodName := ⟨"FlowGateModel", "joined", "(II)I"⟩
abbrev c_D_joined : ByteArray := prog_8_method_8_code
abbrev ws_D_joined : List Cond := .code y_D_joined c_D_joined 9 (some .int) :: AW
def y_D_lookAt : MethodName := ⟨"FlowGateModel", "lookAt", "(I)V"⟩
abbrev c_D_lookAt : ByteArray := prog_8_method_26_code
abbrev ws_D_lookAt : List Cond := .code y_D_lookAt c_D_lookAt 6 none :: AW
def y_D_copyOut : MethodName := ⟨"FlowGateModel", "copyOut", "()V"⟩
abbrev c_D_copyOut : ByteArray := prog_8_method_25_code
abbrev ws_D_copyOut : List Cond := .code y_D_copyOut c_D_copyOut 2 none :: AW
def y_D_hasRaw : MethodName := ⟨"FlowGateModel", "hasRaw", "(Z)Z"⟩
abbrev c_D_hasRaw : ByteArray := prog_8_method_23_code
abbrev ws_D_hasRaw : List Cond := .code y_D_hasRaw c_D_hasRaw 3 (some .boolean) :: AW
def y_D_back : MethodName := ⟨"FlowGateModel", "back", "(II)V"⟩
abbrev c_D_back : ByteArray := prog_8_method_40_code
abbrev ws_D_back : List Cond := .code y_D_back c_D_back 6 none :: AW
def y_D_touches : MethodName := ⟨"FlowGateModel", "touches", "(II)V"⟩
abbrev c_D_touches : ByteArray := prog_8_method_35_code
abbrev ws_D_touches : List Cond := .code y_D_touches c_D_touches 4 none :: AW
def y_D_go : MethodName := ⟨"FlowGateModel", "go", "(II)V"⟩
abbrev c_D_go : ByteArray := prog_8_method_24_code
abbrev ws_D_go : List Cond := .code y_D_go c_D_go 3 none :: AW
def y_D_moves : MethodName := ⟨"FlowGateModel", "moves", "(II)Z"⟩
abbrev c_D_moves : ByteArray := prog_8_method_36_code
abbrev ws_D_moves : List Cond := .code y_D_moves c_D_moves 5 (some .boolean) :: AW
def y_D_put : MethodName := ⟨"FlowGateModel", "put", "(I)Z"⟩
abbrev c_D_put : ByteArray := prog_8_method_29_code
abbrev ws_D_put : List Cond := .code y_D_put c_D_put 2 (some .boolean) :: AW
def y_D_top : MethodName := ⟨"FlowGateModel", "top", "(I)I"⟩
abbrev c_D_top : ByteArray := prog_8_method_27_code
abbrev ws_D_top : List Cond := .code y_D_top c_D_top 2 (some .int) :: AW
def y_D_drop : MethodName := ⟨"FlowGateModel", "drop", "()V"⟩
abbrev c_D_drop : ByteArray := prog_8_method_28_code
abbrev ws_D_drop : List Cond := .code y_D_drop c_D_drop 1 none :: AW
def y_D_single : MethodName := ⟨"FlowGateModel", "single", "(I)Z"⟩
abbrev c_D_single : ByteArray := prog_8_method_34_code
abbrev ws_D_single : List Cond := .code y_D_single c_D_single 2 (some .boolean) :: AW
def y_D_flows : MethodName := ⟨"FlowGateModel", "flows", "(III)Z"⟩
abbrev c_D_flows : ByteArray := prog_8_method_37_code
abbrev ws_D_flows : List Cond := .code y_D_flows c_D_flows 4 (some .boolean) :: AW
def y_D_takes : MethodName := ⟨"FlowGateModel", "takes", "(I)Z"⟩
abbrev c_D_takes : ByteArray := prog_8_method_30_code
abbrev ws_D_takes : List Cond := .code y_D_takes c_D_takes 2 (some .boolean) :: AW
def y_D_takesRef : MethodName := ⟨"FlowGateModel", "takesRef", "()Z"⟩
abbrev c_D_takesRef : ByteArray := prog_8_method_32_code
abbrev ws_D_takesRef : List Cond := .code y_D_takesRef c_D_takesRef 1 (some .boolean) :: AW
def y_D_takesFor : MethodName := ⟨"FlowGateModel", "takesFor", "(I)Z"⟩
abbrev c_D_takesFor : ByteArray := prog_8_method_31_code
abbrev ws_D_takesFor : List Cond := .code y_D_takesFor c_D_takesFor 2 (some .boolean) :: AW
def y_D_goesFor : MethodName := ⟨"FlowGateModel", "goesFor", "(II)Z"⟩
abbrev c_D_goesFor : ByteArray := prog_8_method_7_code
abbrev ws_D_goesFor : List Cond := .code y_D_goesFor c_D_goesFor 5 (some .boolean) :: AW
def y_D_objects : MethodName := ⟨"FlowGateModel", "objects", "(IIII)Z"⟩
abbrev c_D_objects : ByteArray := prog_8_method_38_code
abbrev ws_D_objects : List Cond := .code y_D_objects c_D_objects 7 (some .boolean) :: AW
def y_D_takesRow : MethodName := ⟨"FlowGateModel", "takesRow", "(I)Z"⟩
abbrev c_D_takesRow : ByteArray := prog_8_method_33_code
abbrev ws_D_takesRow : List Cond := .code y_D_takesRow c_D_takesRow 2 (some .boolean) :: AW
def y_D_enters : MethodName := ⟨"FlowGateModel", "enters", "(II)V"⟩
abbrev c_D_enters : ByteArray := prog_8_method_39_code
abbrev ws_D_enters : List Cond := .code y_D_enters c_D_enters 4 none :: AW
def y_D_place : MethodName := ⟨"FlowGateModel", "place", "()I"⟩
abbrev c_D_place : ByteArray := prog_8_method_41_code
abbrev ws_D_place : List Cond := .code y_D_place c_D_place 1 (some .int) :: AW
def y_D_state : MethodName := ⟨"FlowGateModel", "state", "(II)I"⟩
abbrev c_D_state : ByteArray := prog_8_method_42_code
abbrev ws_D_state : List Cond := .code y_D_state c_D_state 5 (some .int) :: AW
def y_D_join : MethodName := ⟨"FlowGateModel", "join", "(II)I"⟩
abbrev c_D_join : ByteArray := prog_8_method_43_code
abbrev ws_D_join : List Cond := .code y_D_join c_D_join 3 (some .int) :: AW
def y_D_goes : MethodName := ⟨"FlowGateModel", "goes", "(II)I"⟩
abbrev c_D_goes : ByteArray := prog_8_method_44_code
abbrev ws_D_goes : List Cond := .code y_D_goes c_D_goes 3 (some .int) :: AW
def y_D_count : MethodName := ⟨"FlowGateModel", "count", "(I)I"⟩
abbrev c_D_count : ByteArray := prog_8_method_45_code
abbrev ws_D_count : List Cond := .code y_D_count c_D_count 4 (some .int) :: AW
