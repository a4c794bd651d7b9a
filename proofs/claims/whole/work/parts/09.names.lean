section NM
theorem gm_ok : True := trivial
def gw_ : List Cond := lw_tbl.filter goodWord
theorem gw_good : ∀ w ∈ gw_, goodWord w = true := fun _ h => (List.mem_filter.mp h).2
theorem gm_ (i : Nat) {w : Cond} (h : lw_tbl[i]? = some w) (hg : goodWord w = true) : w ∈ gw_ := List.mem_filter.mpr ⟨List.mem_of_getElem? h, hg⟩
theorem gi_ {c1 c2 : Cond} (h : c2 ∈ gw_) : GoodIn (c1 :: gw_) (c2 :: gw_) := by
  intro w hw
  rcases List.mem_cons.mp hw with rfl | hw
  · exact ⟨List.mem_cons_of_mem _ h, good_of_word (gw_good _ h)⟩
  · exact ⟨List.mem_cons_of_mem _ hw, good_of_word (gw_good _ hw)⟩
def nw_ : List Cond := [(Jvm.Cond.methodLinkNest "LatticeWraps" (23 : Nat) ({ cls := "LatticeWraps$Desk", name := "<init>", desc := "()V" } : Jvm.MethodName) "LatticeWraps"), (Jvm.Cond.methodLinkNest "LatticeWraps$Desk" (11 : Nat) ({ cls := "LatticeWraps$Shaker", name := "<init>", desc := "()V" } : Jvm.MethodName) "LatticeWraps"), (Jvm.Cond.fieldLinkNest "LatticeWraps" (34 : Nat) "LatticeWraps$Desk" "shaker" "LLatticeWraps$Shaker;" "LatticeWraps"), (Jvm.Cond.fieldLinkNest "LatticeWraps" (103 : Nat) "LatticeWraps$Desk" "opened" "LLatticeWraps$Matrix;" "LatticeWraps"), (Jvm.Cond.methodLinkNest "LatticeWraps" (28 : Nat) ({ cls := "LatticeWraps$Key", name := "<init>", desc := "()V" } : Jvm.MethodName) "LatticeWraps"), (Jvm.Cond.fieldLinkNest "LatticeWraps" (46 : Nat) "LatticeWraps$Key" "full" "Z" "LatticeWraps"), (Jvm.Cond.fieldLinkNest "LatticeWraps$Desk" (128 : Nat) "LatticeWraps$Key" "s" "J" "LatticeWraps"), (Jvm.Cond.fieldLinkNest "LatticeWraps$Desk" (49 : Nat) "LatticeWraps$Key" "mark" "J" "LatticeWraps"), (Jvm.Cond.fieldLinkNest "LatticeWraps" (42 : Nat) "LatticeWraps$Key" "mark" "J" "LatticeWraps"), (Jvm.Cond.fieldLinkNest "LatticeWraps$Desk" (70 : Nat) "LatticeWraps$Key" "a" "LLatticeWraps$Matrix;" "LatticeWraps"), (Jvm.Cond.fieldLinkNest "LatticeWraps$Desk" (111 : Nat) "LatticeWraps$Key" "small" "LLatticeWraps$Matrix;" "LatticeWraps"), (Jvm.Cond.fieldLinkNest "LatticeWraps$Desk" (77 : Nat) "LatticeWraps$Key" "b" "LLatticeWraps$Matrix;" "LatticeWraps"), (Jvm.Cond.fieldLinkNest "LatticeWraps" (83 : Nat) "LatticeWraps$Key" "publicRow" "[I" "LatticeWraps"), (Jvm.Cond.methodLinkNest "LatticeWraps" (29 : Nat) ({ cls := "LatticeWraps$Wrap", name := "<init>", desc := "()V" } : Jvm.MethodName) "LatticeWraps"), (Jvm.Cond.fieldLinkNest "LatticeWraps" (62 : Nat) "LatticeWraps$Wrap" "full" "Z" "LatticeWraps"), (Jvm.Cond.fieldLinkNest "LatticeWraps" (54 : Nat) "LatticeWraps$Wrap" "row" "[I" "LatticeWraps"), (Jvm.Cond.fieldLinkNest "LatticeWraps$Shaker" (39 : Nat) "LatticeWraps" "ROUND_BITS" "[J" "LatticeWraps"), (Jvm.Cond.fieldLinkNest "LatticeWraps$Shaker" (74 : Nat) "LatticeWraps" "LANE_GOES_TO" "[I" "LatticeWraps"), (Jvm.Cond.fieldLinkNest "LatticeWraps$Shaker" (78 : Nat) "LatticeWraps" "LANE_TURNS" "[I" "LatticeWraps"), (Jvm.Cond.fieldLinkNest "LatticeWraps$Matrix" (31 : Nat) "LatticeWraps" "SAMPLE_BOUNDS" "[I" "LatticeWraps"), (Jvm.Cond.castable "java/lang/IllegalArgumentException" "java/lang/IllegalArgumentException"), (Jvm.Cond.declares ({ cls := "java/lang/RuntimeException", name := "<init>", desc := "()V" } : Jvm.MethodName)), (Jvm.Cond.declares ({ cls := "java/lang/RuntimeException", name := "<init>", desc := "(Ljava/lang/String;)V" } : Jvm.MethodName)), (Jvm.Cond.declares ({ cls := "java/lang/Exception", name := "<init>", desc := "()V" } : Jvm.MethodName)), (Jvm.Cond.declares ({ cls := "java/lang/Exception", name := "<init>", desc := "(Ljava/lang/String;)V" } : Jvm.MethodName)), (Jvm.Cond.declares ({ cls := "java/lang/Throwable", name := "<init>", desc := "()V" } : Jvm.MethodName)), (Jvm.Cond.declares ({ cls := "java/lang/Throwable", name := "<init>", desc := "(Ljava/lang/String;)V" } : Jvm.MethodName)), (Jvm.Cond.castable "java/util/NoSuchElementException" "java/util/NoSuchElementException"), (Jvm.Cond.castable "java/lang/IndexOutOfBoundsException" "java/lang/IndexOutOfBoundsException")]
def R_D : String := "LatticeWraps$Desk"
def T_D : u_T := fun k => match k with
  | 0 => ("LatticeWraps$Desk", "shaker", "LLatticeWraps$Shaker;", true)
  | 1 => ("LatticeWraps$Desk", "small", "LLatticeWraps$Matrix;", true)
  | 2 => ("LatticeWraps$Desk", "errorOfX", "LLatticeWraps$Matrix;", true)
  | 3 => ("LatticeWraps$Desk", "errorOfY", "LLatticeWraps$Matrix;", true)
  | 4 => ("LatticeWraps$Desk", "x", "LLatticeWraps$Matrix;", true)
  | 5 => ("LatticeWraps$Desk", "y", "LLatticeWraps$Matrix;", true)
  | 6 => ("LatticeWraps$Desk", "opened", "LLatticeWraps$Matrix;", true)
  | _ => ("LatticeWraps$Desk", "again", "[I", true)
def t_D : Nat → FieldType := fun k => match k with
  | 0 => .object "LatticeWraps$Shaker"
  | 1 => .object "LatticeWraps$Matrix"
  | 2 => .object "LatticeWraps$Matrix"
  | 3 => .object "LatticeWraps$Matrix"
  | 4 => .object "LatticeWraps$Matrix"
  | 5 => .object "LatticeWraps$Matrix"
  | 6 => .object "LatticeWraps$Matrix"
  | _ => .array .int
set_option maxRecDepth 100000 in
theorem n_D : ∀ a, a < 8 → ∀ b, b < 8 → a ≠ b → (T_D a).2.1 ≠ (T_D b).2.1 := by decide +kernel
set_option maxRecDepth 100000 in
theorem t_D_ok : ∀ k, k < 8 → parseFieldDescriptor (T_D k).2.2.1 = some (t_D k) := by decide +kernel
set_option maxRecDepth 100000 in
theorem u_D_in : ∀ w ∈ u_ws R_D T_D 8, w ∈ gw_ := by decide +kernel
def R_K : String := "LatticeWraps$Key"
def T_K : u_T := fun k => match k with
  | 0 => ("LatticeWraps$Key", "full", "Z", false)
  | 1 => ("LatticeWraps$Key", "s", "J", false)
  | 2 => ("LatticeWraps$Key", "mark", "J", false)
  | 3 => ("LatticeWraps$Key", "a", "LLatticeWraps$Matrix;", true)
  | 4 => ("LatticeWraps$Key", "small", "LLatticeWraps$Matrix;", true)
  | 5 => ("LatticeWraps$Key", "error", "LLatticeWraps$Matrix;", true)
  | 6 => ("LatticeWraps$Key", "b", "LLatticeWraps$Matrix;", true)
  | _ => ("LatticeWraps$Key", "publicRow", "[I", true)
def t_K : Nat → FieldType := fun k => match k with
  | 0 => .boolean
  | 1 => .long
  | 2 => .long
  | 3 => .object "LatticeWraps$Matrix"
  | 4 => .object "LatticeWraps$Matrix"
  | 5 => .object "LatticeWraps$Matrix"
  | 6 => .object "LatticeWraps$Matrix"
  | _ => .array .int
set_option maxRecDepth 100000 in
theorem n_K : ∀ a, a < 8 → ∀ b, b < 8 → a ≠ b → (T_K a).2.1 ≠ (T_K b).2.1 := by decide +kernel
set_option maxRecDepth 100000 in
theorem t_K_ok : ∀ k, k < 8 → parseFieldDescriptor (T_K k).2.2.1 = some (t_K k) := by decide +kernel
set_option maxRecDepth 100000 in
theorem u_K_in : ∀ w ∈ u_ws R_K T_K 8, w ∈ gw_ := by decide +kernel
def R_M : String := "LatticeWraps$Matrix"
def T_M : u_T := fun k => match k with
  | 0 => ("LatticeWraps$Matrix", "rows", "I", true)
  | 1 => ("LatticeWraps$Matrix", "columns", "I", true)
  | _ => ("LatticeWraps$Matrix", "entries", "[I", true)
def t_M : Nat → FieldType := fun k => match k with
  | 0 => .int
  | 1 => .int
  | _ => .array .int
set_option maxRecDepth 100000 in
theorem n_M : ∀ a, a < 3 → ∀ b, b < 3 → a ≠ b → (T_M a).2.1 ≠ (T_M b).2.1 := by decide +kernel
set_option maxRecDepth 100000 in
theorem t_M_ok : ∀ k, k < 3 → parseFieldDescriptor (T_M k).2.2.1 = some (t_M k) := by decide +kernel
set_option maxRecDepth 100000 in
theorem u_M_in : ∀ w ∈ u_ws R_M T_M 3, w ∈ gw_ := by decide +kernel
def R_S : String := "LatticeWraps$Shaker"
def T_S : u_T := fun k => match k with
  | 0 => ("LatticeWraps$Shaker", "lanes", "[J", true)
  | 1 => ("LatticeWraps$Shaker", "moved", "[J", true)
  | 2 => ("LatticeWraps$Shaker", "columns", "[J", true)
  | _ => ("LatticeWraps$Shaker", "length", "I", false)
def t_S : Nat → FieldType := fun k => match k with
  | 0 => .array .long
  | 1 => .array .long
  | 2 => .array .long
  | _ => .int
set_option maxRecDepth 100000 in
theorem n_S : ∀ a, a < 4 → ∀ b, b < 4 → a ≠ b → (T_S a).2.1 ≠ (T_S b).2.1 := by decide +kernel
set_option maxRecDepth 100000 in
theorem t_S_ok : ∀ k, k < 4 → parseFieldDescriptor (T_S k).2.2.1 = some (t_S k) := by decide +kernel
set_option maxRecDepth 100000 in
theorem u_S_in : ∀ w ∈ u_ws R_S T_S 4, w ∈ gw_ := by decide +kernel
def R_W : String := "LatticeWraps$Wrap"
def T_W : u_T := fun k => match k with
  | 0 => ("LatticeWraps$Wrap", "full", "Z", false)
  | _ => ("LatticeWraps$Wrap", "row", "[I", true)
def t_W : Nat → FieldType := fun k => match k with
  | 0 => .boolean
  | _ => .array .int
set_option maxRecDepth 100000 in
theorem n_W : ∀ a, a < 2 → ∀ b, b < 2 → a ≠ b → (T_W a).2.1 ≠ (T_W b).2.1 := by decide +kernel
set_option maxRecDepth 100000 in
theorem t_W_ok : ∀ k, k < 2 → parseFieldDescriptor (T_W k).2.2.1 = some (t_W k) := by decide +kernel
set_option maxRecDepth 100000 in
theorem u_W_in : ∀ w ∈ u_ws R_W T_W 2, w ∈ gw_ := by decide +kernel
def R_L : String := "LatticeWraps"
def T_L : u_T := fun k => match k with
  | 0 => ("LatticeWraps", "keys", "[LLatticeWraps$Key;", true)
  | 1 => ("LatticeWraps", "wraps", "[LLatticeWraps$Wrap;", true)
  | _ => ("LatticeWraps", "desk", "LLatticeWraps$Desk;", true)
def t_L : Nat → FieldType := fun k => match k with
  | 0 => .array (.object "LatticeWraps$Key")
  | 1 => .array (.object "LatticeWraps$Wrap")
  | _ => .object "LatticeWraps$Desk"
set_option maxRecDepth 100000 in
theorem n_L : ∀ a, a < 3 → ∀ b, b < 3 → a ≠ b → (T_L a).2.1 ≠ (T_L b).2.1 := by decide +kernel
set_option maxRecDepth 100000 in
theorem t_L_ok : ∀ k, k < 3 → parseFieldDescriptor (T_L k).2.2.1 = some (t_L k) := by decide +kernel
set_option maxRecDepth 100000 in
theorem u_L_in : ∀ w ∈ u_ws R_L T_L 3, w ∈ gw_ := by decide +kernel
def R_R : String := "LatticeWrapsModel"
def T_R : u_T := fun k => match k with
  | 0 => ("LatticeWrapsModel", "code", "I", false)
  | 1 => ("LatticeWrapsModel", "turns", "[I", true)
  | 2 => ("LatticeWrapsModel", "flips", "[Z", true)
  | 3 => ("LatticeWrapsModel", "lane", "[J", true)
  | 4 => ("LatticeWrapsModel", "moved", "[J", true)
  | 5 => ("LatticeWrapsModel", "column", "[J", true)
  | 6 => ("LatticeWrapsModel", "rowSize", "I", false)
  | 7 => ("LatticeWrapsModel", "row", "[I", true)
  | 8 => ("LatticeWrapsModel", "out", "[I", true)
  | 9 => ("LatticeWrapsModel", "made", "[Z", true)
  | 10 => ("LatticeWrapsModel", "seeds", "[J", true)
  | 11 => ("LatticeWrapsModel", "secrets", "[J", true)
  | 12 => ("LatticeWrapsModel", "marks", "[J", true)
  | 13 => ("LatticeWrapsModel", "a", "[I", true)
  | 14 => ("LatticeWrapsModel", "s", "[I", true)
  | 15 => ("LatticeWrapsModel", "b", "[I", true)
  | 16 => ("LatticeWrapsModel", "e", "[I", true)
  | 17 => ("LatticeWrapsModel", "wrapped", "[Z", true)
  | 18 => ("LatticeWrapsModel", "wraps", "[I", true)
  | 19 => ("LatticeWrapsModel", "small", "[I", true)
  | 20 => ("LatticeWrapsModel", "x", "[I", true)
  | _ => ("LatticeWrapsModel", "y", "[I", true)
def t_R : Nat → FieldType := fun k => match k with
  | 0 => .int
  | 1 => .array .int
  | 2 => .array .boolean
  | 3 => .array .long
  | 4 => .array .long
  | 5 => .array .long
  | 6 => .int
  | 7 => .array .int
  | 8 => .array .int
  | 9 => .array .boolean
  | 10 => .array .long
  | 11 => .array .long
  | 12 => .array .long
  | 13 => .array .int
  | 14 => .array .int
  | 15 => .array .int
  | 16 => .array .int
  | 17 => .array .boolean
  | 18 => .array .int
  | 19 => .array .int
  | 20 => .array .int
  | _ => .array .int
set_option maxRecDepth 100000 in
theorem n_R : ∀ a, a < 22 → ∀ b, b < 22 → a ≠ b → (T_R a).2.1 ≠ (T_R b).2.1 := by decide +kernel
set_option maxRecDepth 100000 in
theorem t_R_ok : ∀ k, k < 22 → parseFieldDescriptor (T_R k).2.2.1 = some (t_R k) := by decide +kernel
set_option maxRecDepth 100000 in
theorem u_R_in : ∀ w ∈ u_ws R_R T_R 22, w ∈ gw_ := by decide +kernel
def R_Q : String := "LatticeWrapsLaw"
abbrev cl_ : List vw_C := [(R_D, T_D, 8), (R_K, T_K, 8), (R_M, T_M, 3), (R_S, T_S, 4), (R_W, T_W, 2), (R_L, T_L, 3), (R_R, T_R, 22)]
abbrev c_L_init : ByteArray := prog_1_method_1_code
def y_L_init : MethodName := ⟨R_L, "<init>", "()V"⟩
abbrev k_L_init : Cond := .code y_L_init c_L_init 2 none
abbrev c_D_init : ByteArray := prog_2_method_1_code
def y_D_init : MethodName := ⟨R_D, "<init>", "()V"⟩
abbrev k_D_init : Cond := .code y_D_init c_D_init 1 none
abbrev c_S_init : ByteArray := prog_5_method_1_code
def y_S_init : MethodName := ⟨R_S, "<init>", "()V"⟩
abbrev k_S_init : Cond := .code y_S_init c_S_init 1 none
abbrev c_M_init : ByteArray := prog_4_method_1_code
def y_M_init : MethodName := ⟨R_M, "<init>", "(II)V"⟩
abbrev k_M_init : Cond := .code y_M_init c_M_init 3 none
abbrev c_K_init : ByteArray := prog_3_method_1_code
def y_K_init : MethodName := ⟨R_K, "<init>", "()V"⟩
abbrev k_K_init : Cond := .code y_K_init c_K_init 1 none
abbrev c_W_init : ByteArray := prog_6_method_1_code
def y_W_init : MethodName := ⟨R_W, "<init>", "()V"⟩
abbrev k_W_init : Cond := .code y_W_init c_W_init 1 none
abbrev c_Q_make : ByteArray := method_3_code
def y_Q_make : MethodName := ⟨R_Q, "make", "(LLatticeWraps;IJJJ[J)I"⟩
abbrev k_Q_make : Cond := .codeWith y_Q_make c_Q_make 10 (some .int) [((0 : Nat), (14 : Nat), (17 : Nat), (13 : Nat))]
abbrev c_L_make : ByteArray := prog_1_method_2_code
def y_L_make : MethodName := ⟨R_L, "make", "(IJJJ)J"⟩
abbrev k_L_make : Cond := .code y_L_make c_L_make 8 (some .long)
abbrev c_L_refuseNoPlace : ByteArray := prog_1_method_16_code
def y_L_refuseNoPlace : MethodName := ⟨R_L, "refuseNoPlace", "(I)V"⟩
abbrev k_L_refuseNoPlace : Cond := .code y_L_refuseNoPlace c_L_refuseNoPlace 1 none
abbrev c_K_fillFrom : ByteArray := prog_3_method_2_code
def y_K_fillFrom : MethodName := ⟨R_K, "fillFrom", "(JJJLLatticeWraps$Shaker;)V"⟩
abbrev k_K_fillFrom : Cond := .code y_K_fillFrom c_K_fillFrom 11 none
abbrev c_S_ofLong : ByteArray := prog_5_method_9_code
def y_S_ofLong : MethodName := ⟨R_S, "ofLong", "(J)J"⟩
abbrev k_S_ofLong : Cond := .code y_S_ofLong c_S_ofLong 3 (some .long)
abbrev c_S_begin : ByteArray := prog_5_method_2_code
def y_S_begin : MethodName := ⟨R_S, "begin", "()V"⟩
abbrev k_S_begin : Cond := .code y_S_begin c_S_begin 1 none
abbrev c_A_fill : ByteArray := prog_16_method_101_code
def y_A_fill : MethodName := ⟨"java/util/Arrays", "fill", "([JJ)V"⟩
abbrev k_A_fill : Cond := .code y_A_fill c_A_fill 5 none
abbrev c_S_putBytes : ByteArray := prog_5_method_4_code
def y_S_putBytes : MethodName := ⟨R_S, "putBytes", "(JI)V"⟩
abbrev k_S_putBytes : Cond := .code y_S_putBytes c_S_putBytes 5 none
abbrev c_S_putByte : ByteArray := prog_5_method_3_code
def y_S_putByte : MethodName := ⟨R_S, "putByte", "(I)V"⟩
abbrev k_S_putByte : Cond := .code y_S_putByte c_S_putByte 2 none
abbrev c_S_finish : ByteArray := prog_5_method_6_code
def y_S_finish : MethodName := ⟨R_S, "finish", "()V"⟩
abbrev k_S_finish : Cond := .code y_S_finish c_S_finish 2 none
abbrev c_S_mixColumns : ByteArray := prog_5_method_12_code
def y_S_mixColumns : MethodName := ⟨R_S, "mixColumns", "()V"⟩
abbrev k_S_mixColumns : Cond := .code y_S_mixColumns c_S_mixColumns 5 none
abbrev c_S_turned : ByteArray := prog_5_method_15_code
def y_S_turned : MethodName := ⟨R_S, "turned", "(JI)J"⟩
abbrev k_S_turned : Cond := .code y_S_turned c_S_turned 3 (some .long)
abbrev c_S_moveLanes : ByteArray := prog_5_method_13_code
def y_S_moveLanes : MethodName := ⟨R_S, "moveLanes", "()V"⟩
abbrev k_S_moveLanes : Cond := .code y_S_moveLanes c_S_moveLanes 2 none
abbrev c_S_mixRows : ByteArray := prog_5_method_14_code
def y_S_mixRows : MethodName := ⟨R_S, "mixRows", "()V"⟩
abbrev k_S_mixRows : Cond := .code y_S_mixRows c_S_mixRows 7 none
abbrev c_S_longAt : ByteArray := prog_5_method_7_code
def y_S_longAt : MethodName := ⟨R_S, "longAt", "(I)J"⟩
abbrev k_S_longAt : Cond := .code y_S_longAt c_S_longAt 2 (some .long)
abbrev c_K_fillA : ByteArray := prog_3_method_3_code
def y_K_fillA : MethodName := ⟨R_K, "fillA", "(JLLatticeWraps$Shaker;)V"⟩
abbrev k_K_fillA : Cond := .code y_K_fillA c_K_fillA 6 none
abbrev c_S_pairAt : ByteArray := prog_5_method_8_code
def y_S_pairAt : MethodName := ⟨R_S, "pairAt", "(I)I"⟩
abbrev k_S_pairAt : Cond := .code y_S_pairAt c_S_pairAt 2 (some .int)
abbrev c_M_put : ByteArray := prog_4_method_4_code
def y_M_put : MethodName := ⟨R_M, "put", "(III)V"⟩
abbrev k_M_put : Cond := .code y_M_put c_M_put 4 none
abbrev c_S_ofByteAndLong : ByteArray := prog_5_method_10_code
def y_S_ofByteAndLong : MethodName := ⟨R_S, "ofByteAndLong", "(IJ)V"⟩
abbrev k_S_ofByteAndLong : Cond := .code y_S_ofByteAndLong c_S_ofByteAndLong 4 none
abbrev c_M_takeSamples : ByteArray := prog_4_method_5_code
def y_M_takeSamples : MethodName := ⟨R_M, "takeSamples", "(LLatticeWraps$Shaker;I)V"⟩
abbrev k_M_takeSamples : Cond := .code y_M_takeSamples c_M_takeSamples 4 none
abbrev c_M_sampleOf : ByteArray := prog_4_method_6_code
def y_M_sampleOf : MethodName := ⟨R_M, "sampleOf", "(I)I"⟩
abbrev k_M_sampleOf : Cond := .code y_M_sampleOf c_M_sampleOf 3 (some .int)
abbrev c_M_takeSumWithProduct : ByteArray := prog_4_method_7_code
def y_M_takeSumWithProduct : MethodName := ⟨R_M, "takeSumWithProduct", "(LLatticeWraps$Matrix;ILLatticeWraps$Matrix;LLatticeWraps$Matrix;)V"⟩
abbrev k_M_takeSumWithProduct : Cond := .code y_M_takeSumWithProduct c_M_takeSumWithProduct 9 none
abbrev c_M_at : ByteArray := prog_4_method_3_code
def y_M_at : MethodName := ⟨R_M, "at", "(II)I"⟩
abbrev k_M_at : Cond := .code y_M_at c_M_at 3 (some .int)
abbrev c_M_packInto : ByteArray := prog_4_method_8_code
def y_M_packInto : MethodName := ⟨R_M, "packInto", "([II)V"⟩
abbrev k_M_packInto : Cond := .code y_M_packInto c_M_packInto 7 none
abbrev c_S_putRow : ByteArray := prog_5_method_5_code
def y_S_putRow : MethodName := ⟨R_S, "putRow", "([I)V"⟩
abbrev k_S_putRow : Cond := .code y_S_putRow c_S_putRow 3 none
abbrev c_Q_wrap : ByteArray := method_4_code
def y_Q_wrap : MethodName := ⟨R_Q, "wrap", "(LLatticeWraps;III[J)I"⟩
abbrev k_Q_wrap : Cond := .codeWith y_Q_wrap c_Q_wrap 6 (some .int) [((0 : Nat), (11 : Nat), (14 : Nat), (13 : Nat)), ((0 : Nat), (11 : Nat), (18 : Nat), (19 : Nat))]
abbrev c_L_wrap : ByteArray := prog_1_method_3_code
def y_L_wrap : MethodName := ⟨R_L, "wrap", "(III)J"⟩
abbrev k_L_wrap : Cond := .code y_L_wrap c_L_wrap 6 (some .long)
abbrev c_L_refuseEmpty : ByteArray := prog_1_method_19_code
def y_L_refuseEmpty : MethodName := ⟨R_L, "refuseEmpty", "(Z)V"⟩
abbrev k_L_refuseEmpty : Cond := .code y_L_refuseEmpty c_L_refuseEmpty 1 none
abbrev c_D_seal : ByteArray := prog_2_method_2_code
def y_D_seal : MethodName := ⟨R_D, "seal", "(ILLatticeWraps$Key;[I)J"⟩
abbrev k_D_seal : Cond := .code y_D_seal c_D_seal 8 (some .long)
abbrev c_D_takeNoise : ByteArray := prog_2_method_3_code
def y_D_takeNoise : MethodName := ⟨R_D, "takeNoise", "(J)V"⟩
abbrev k_D_takeNoise : Cond := .code y_D_takeNoise c_D_takeNoise 3 none
abbrev c_D_addCode : ByteArray := prog_2_method_4_code
def y_D_addCode : MethodName := ⟨R_D, "addCode", "(I)V"⟩
abbrev k_D_addCode : Cond := .code y_D_addCode c_D_addCode 5 none
abbrev c_S_ofRowAndLong : ByteArray := prog_5_method_11_code
def y_S_ofRowAndLong : MethodName := ⟨R_S, "ofRowAndLong", "([IJ)J"⟩
abbrev k_S_ofRowAndLong : Cond := .code y_S_ofRowAndLong c_S_ofRowAndLong 4 (some .long)
abbrev c_Q_unwrap : ByteArray := method_5_code
def y_Q_unwrap : MethodName := ⟨R_Q, "unwrap", "(LLatticeWraps;II[J)I"⟩
abbrev k_Q_unwrap : Cond := .codeWith y_Q_unwrap c_Q_unwrap 5 (some .int) [((0 : Nat), (9 : Nat), (12 : Nat), (13 : Nat)), ((0 : Nat), (9 : Nat), (16 : Nat), (19 : Nat))]
abbrev c_L_unwrap : ByteArray := prog_1_method_4_code
def y_L_unwrap : MethodName := ⟨R_L, "unwrap", "(II)J"⟩
abbrev k_L_unwrap : Cond := .code y_L_unwrap c_L_unwrap 3 (some .long)
abbrev c_L_refuseUnreadable : ByteArray := prog_1_method_14_code
def y_L_refuseUnreadable : MethodName := ⟨R_L, "refuseUnreadable", "(II)V"⟩
abbrev k_L_refuseUnreadable : Cond := .code y_L_refuseUnreadable c_L_refuseUnreadable 3 none
abbrev c_D_unseal : ByteArray := prog_2_method_8_code
def y_D_unseal : MethodName := ⟨R_D, "unseal", "([ILLatticeWraps$Key;)J"⟩
abbrev k_D_unseal : Cond := .code y_D_unseal c_D_unseal 5 (some .long)
abbrev c_D_open : ByteArray := prog_2_method_5_code
def y_D_open : MethodName := ⟨R_D, "open", "([ILLatticeWraps$Key;)V"⟩
abbrev k_D_open : Cond := .code y_D_open c_D_open 3 none
abbrev c_M_unpackFrom : ByteArray := prog_4_method_9_code
def y_M_unpackFrom : MethodName := ⟨R_M, "unpackFrom", "([II)V"⟩
abbrev k_M_unpackFrom : Cond := .code y_M_unpackFrom c_M_unpackFrom 7 none
abbrev c_D_openedMessage : ByteArray := prog_2_method_6_code
def y_D_openedMessage : MethodName := ⟨R_D, "openedMessage", "()I"⟩
abbrev k_D_openedMessage : Cond := .code y_D_openedMessage c_D_openedMessage 5 (some .int)
abbrev c_D_isAgain : ByteArray := prog_2_method_9_code
def y_D_isAgain : MethodName := ⟨R_D, "isAgain", "([I)Z"⟩
abbrev k_D_isAgain : Cond := .code y_D_isAgain c_D_isAgain 4 (some .boolean)
abbrev c_Q_change : ByteArray := method_6_code
def y_Q_change : MethodName := ⟨R_Q, "change", "(LLatticeWraps;III[J)I"⟩
abbrev k_Q_change : Cond := .codeWith y_Q_change c_Q_change 6 (some .int) [((0 : Nat), (12 : Nat), (15 : Nat), (13 : Nat)), ((0 : Nat), (12 : Nat), (19 : Nat), (19 : Nat)), ((0 : Nat), (12 : Nat), (23 : Nat), (29 : Nat))]
abbrev c_L_change : ByteArray := prog_1_method_5_code
def y_L_change : MethodName := ⟨R_L, "change", "(III)I"⟩
abbrev k_L_change : Cond := .code y_L_change c_L_change 4 (some .int)
abbrev c_L_refuseNoWrapByte : ByteArray := prog_1_method_15_code
def y_L_refuseNoWrapByte : MethodName := ⟨R_L, "refuseNoWrapByte", "(II)V"⟩
abbrev k_L_refuseNoWrapByte : Cond := .code y_L_refuseNoWrapByte c_L_refuseNoWrapByte 3 none
abbrev c_L_refuseOutside : ByteArray := prog_1_method_20_code
def y_L_refuseOutside : MethodName := ⟨R_L, "refuseOutside", "(Z)V"⟩
abbrev k_L_refuseOutside : Cond := .code y_L_refuseOutside c_L_refuseOutside 1 none
abbrev c_Q_copy : ByteArray := method_7_code
def y_Q_copy : MethodName := ⟨R_Q, "copy", "(LLatticeWraps;II)I"⟩
abbrev k_Q_copy : Cond := .codeWith y_Q_copy c_Q_copy 4 (some .int) [((0 : Nat), (6 : Nat), (9 : Nat), (13 : Nat)), ((0 : Nat), (6 : Nat), (12 : Nat), (19 : Nat))]
abbrev c_L_copy : ByteArray := prog_1_method_6_code
def y_L_copy : MethodName := ⟨R_L, "copy", "(II)V"⟩
abbrev k_L_copy : Cond := .code y_L_copy c_L_copy 3 none
abbrev c_Q_forget : ByteArray := method_8_code
def y_Q_forget : MethodName := ⟨R_Q, "forget", "(LLatticeWraps;ZI[J)I"⟩
abbrev k_Q_forget : Cond := .codeWith y_Q_forget c_Q_forget 5 (some .int) [((0 : Nat), (17 : Nat), (20 : Nat), (13 : Nat))]
abbrev c_L_forget : ByteArray := prog_1_method_7_code
def y_L_forget : MethodName := ⟨R_L, "forget", "(ZI)Z"⟩
abbrev k_L_forget : Cond := .code y_L_forget c_L_forget 4 (some .boolean)
abbrev c_Q_wrapByte : ByteArray := method_9_code
def y_Q_wrapByte : MethodName := ⟨R_Q, "wrapByte", "(LLatticeWraps;II[J)I"⟩
abbrev k_Q_wrapByte : Cond := .codeWith y_Q_wrapByte c_Q_wrapByte 5 (some .int) [((0 : Nat), (10 : Nat), (13 : Nat), (13 : Nat)), ((0 : Nat), (10 : Nat), (17 : Nat), (19 : Nat)), ((0 : Nat), (10 : Nat), (21 : Nat), (29 : Nat))]
abbrev c_L_wrapByte : ByteArray := prog_1_method_8_code
def y_L_wrapByte : MethodName := ⟨R_L, "wrapByte", "(II)I"⟩
abbrev k_L_wrapByte : Cond := .code y_L_wrapByte c_L_wrapByte 3 (some .int)
abbrev c_Q_publicByte : ByteArray := method_10_code
def y_Q_publicByte : MethodName := ⟨R_Q, "publicByte", "(LLatticeWraps;II[J)I"⟩
abbrev k_Q_publicByte : Cond := .codeWith y_Q_publicByte c_Q_publicByte 5 (some .int) [((0 : Nat), (10 : Nat), (13 : Nat), (13 : Nat)), ((0 : Nat), (10 : Nat), (17 : Nat), (19 : Nat)), ((0 : Nat), (10 : Nat), (21 : Nat), (29 : Nat))]
abbrev c_L_publicByte : ByteArray := prog_1_method_9_code
def y_L_publicByte : MethodName := ⟨R_L, "publicByte", "(II)I"⟩
abbrev k_L_publicByte : Cond := .code y_L_publicByte c_L_publicByte 3 (some .int)
abbrev c_Q_entry : ByteArray := method_11_code
def y_Q_entry : MethodName := ⟨R_Q, "entry", "(LLatticeWraps;IIII[J)I"⟩
abbrev k_Q_entry : Cond := .codeWith y_Q_entry c_Q_entry 7 (some .int) [((0 : Nat), (14 : Nat), (17 : Nat), (13 : Nat)), ((0 : Nat), (14 : Nat), (21 : Nat), (19 : Nat)), ((0 : Nat), (14 : Nat), (25 : Nat), (29 : Nat))]
abbrev c_L_entry : ByteArray := prog_1_method_10_code
def y_L_entry : MethodName := ⟨R_L, "entry", "(IIII)I"⟩
abbrev k_L_entry : Cond := .code y_L_entry c_L_entry 6 (some .int)
abbrev c_L_refuseNoMatrix : ByteArray := prog_1_method_17_code
def y_L_refuseNoMatrix : MethodName := ⟨R_L, "refuseNoMatrix", "(I)V"⟩
abbrev k_L_refuseNoMatrix : Cond := .code y_L_refuseNoMatrix c_L_refuseNoMatrix 1 none
abbrev c_K_matrix : ByteArray := prog_3_method_4_code
def y_K_matrix : MethodName := ⟨R_K, "matrix", "(I)LLatticeWraps$Matrix;"⟩
abbrev k_K_matrix : Cond := .code y_K_matrix c_K_matrix 2 (some (.object "LatticeWraps$Matrix"))
abbrev c_M_has : ByteArray := prog_4_method_2_code
def y_M_has : MethodName := ⟨R_M, "has", "(II)Z"⟩
abbrev k_M_has : Cond := .code y_M_has c_M_has 3 (some .boolean)
abbrev c_Q_noise : ByteArray := method_12_code
def y_Q_noise : MethodName := ⟨R_Q, "noise", "(LLatticeWraps;IIII[J)I"⟩
abbrev k_Q_noise : Cond := .codeWith y_Q_noise c_Q_noise 7 (some .int) [((0 : Nat), (14 : Nat), (17 : Nat), (13 : Nat)), ((0 : Nat), (14 : Nat), (21 : Nat), (19 : Nat)), ((0 : Nat), (14 : Nat), (25 : Nat), (29 : Nat))]
abbrev c_L_noise : ByteArray := prog_1_method_11_code
def y_L_noise : MethodName := ⟨R_L, "noise", "(IIII)I"⟩
abbrev k_L_noise : Cond := .code y_L_noise c_L_noise 5 (some .int)
abbrev c_D_openedNoise : ByteArray := prog_2_method_7_code
def y_D_openedNoise : MethodName := ⟨R_D, "openedNoise", "(II)I"⟩
abbrev k_D_openedNoise : Cond := .code y_D_openedNoise c_D_openedNoise 3 (some .int)
abbrev c_Q_read : ByteArray := method_13_code
def y_Q_read : MethodName := ⟨R_Q, "read", "(LLatticeWraps;II[J)I"⟩
abbrev k_Q_read : Cond := .codeWith y_Q_read c_Q_read 5 (some .int) [((0 : Nat), (10 : Nat), (13 : Nat), (13 : Nat)), ((0 : Nat), (10 : Nat), (17 : Nat), (19 : Nat))]
abbrev c_L_read : ByteArray := prog_1_method_12_code
def y_L_read : MethodName := ⟨R_L, "read", "(II)I"⟩
abbrev k_L_read : Cond := .code y_L_read c_L_read 3 (some .int)
abbrev c_Q_shake : ByteArray := method_14_code
def y_Q_shake : MethodName := ⟨R_Q, "shake", "(LLatticeWraps;IJ[J)I"⟩
abbrev k_Q_shake : Cond := .codeWith y_Q_shake c_Q_shake 6 (some .int) [((0 : Nat), (10 : Nat), (13 : Nat), (13 : Nat))]
abbrev c_L_shake : ByteArray := prog_1_method_13_code
def y_L_shake : MethodName := ⟨R_L, "shake", "(IJ)J"⟩
abbrev k_L_shake : Cond := .code y_L_shake c_L_shake 4 (some .long)
abbrev c_L_refuseNoLength : ByteArray := prog_1_method_18_code
def y_L_refuseNoLength : MethodName := ⟨R_L, "refuseNoLength", "(I)V"⟩
abbrev k_L_refuseNoLength : Cond := .code y_L_refuseNoLength c_L_refuseNoLength 1 none
abbrev c_R_init : ByteArray := prog_8_method_1_code
def y_R_init : MethodName := ⟨R_R, "<init>", "()V"⟩
abbrev k_R_init : Cond := .code y_R_init c_R_init 5 none
abbrev c_R_thrown : ByteArray := prog_8_method_2_code
def y_R_thrown : MethodName := ⟨R_R, "thrown", "()I"⟩
abbrev k_R_thrown : Cond := .code y_R_thrown c_R_thrown 1 (some .int)
abbrev c_R_make : ByteArray := prog_8_method_16_code
def y_R_make : MethodName := ⟨R_R, "make", "(IJJJ)J"⟩
abbrev k_R_make : Cond := .code y_R_make c_R_make 11 (some .long)
abbrev c_R_isPlace : ByteArray := prog_8_method_15_code
def y_R_isPlace : MethodName := ⟨R_R, "isPlace", "(I)Z"⟩
abbrev k_R_isPlace : Cond := .code y_R_isPlace c_R_isPlace 1 (some .boolean)
abbrev c_R_addBytes : ByteArray := prog_8_method_5_code
def y_R_addBytes : MethodName := ⟨R_R, "addBytes", "(JI)V"⟩
abbrev k_R_addBytes : Cond := .code y_R_addBytes c_R_addBytes 5 none
abbrev c_R_shakeRow : ByteArray := prog_8_method_7_code
def y_R_shakeRow : MethodName := ⟨R_R, "shakeRow", "(I)V"⟩
abbrev k_R_shakeRow : Cond := .code y_R_shakeRow c_R_shakeRow 3 none
abbrev c_R_round : ByteArray := prog_8_method_4_code
def y_R_round : MethodName := ⟨R_R, "round", "(I)V"⟩
abbrev k_R_round : Cond := .code y_R_round c_R_round 7 none
abbrev c_R_rot : ByteArray := prog_8_method_3_code
def y_R_rot : MethodName := ⟨R_R, "rot", "(JI)J"⟩
abbrev k_R_rot : Cond := .code y_R_rot c_R_rot 3 (some .long)
abbrev c_R_longAt : ByteArray := prog_8_method_8_code
def y_R_longAt : MethodName := ⟨R_R, "longAt", "(I)J"⟩
abbrev k_R_longAt : Cond := .code y_R_longAt c_R_longAt 5 (some .long)
abbrev c_R_sampleAt : ByteArray := prog_8_method_11_code
def y_R_sampleAt : MethodName := ⟨R_R, "sampleAt", "(I)I"⟩
abbrev k_R_sampleAt : Cond := .code y_R_sampleAt c_R_sampleAt 5 (some .int)
abbrev c_R_pairAt : ByteArray := prog_8_method_9_code
def y_R_pairAt : MethodName := ⟨R_R, "pairAt", "(I)I"⟩
abbrev k_R_pairAt : Cond := .code y_R_pairAt c_R_pairAt 2 (some .int)
abbrev c_R_step : ByteArray := prog_8_method_10_code
def y_R_step : MethodName := ⟨R_R, "step", "(I)I"⟩
abbrev k_R_step : Cond := .code y_R_step c_R_step 1 (some .int)
abbrev c_R_expand : ByteArray := prog_8_method_14_code
def y_R_expand : MethodName := ⟨R_R, "expand", "(I)V"⟩
abbrev k_R_expand : Cond := .code y_R_expand c_R_expand 4 none
abbrev c_R_addPublic : ByteArray := prog_8_method_12_code
def y_R_addPublic : MethodName := ⟨R_R, "addPublic", "(I)V"⟩
abbrev k_R_addPublic : Cond := .code y_R_addPublic c_R_addPublic 3 none
abbrev c_R_packedByte : ByteArray := prog_8_method_13_code
def y_R_packedByte : MethodName := ⟨R_R, "packedByte", "([III)I"⟩
abbrev k_R_packedByte : Cond := .code y_R_packedByte c_R_packedByte 5 (some .int)
abbrev c_R_wrap : ByteArray := prog_8_method_21_code
def y_R_wrap : MethodName := ⟨R_R, "wrap", "(III)J"⟩
abbrev k_R_wrap : Cond := .code y_R_wrap c_R_wrap 4 (some .long)
abbrev c_R_wrapInto : ByteArray := prog_8_method_17_code
def y_R_wrapInto : MethodName := ⟨R_R, "wrapInto", "(III)J"⟩
abbrev k_R_wrapInto : Cond := .code y_R_wrapInto c_R_wrapInto 11 (some .long)
abbrev c_R_addWrap : ByteArray := prog_8_method_6_code
def y_R_addWrap : MethodName := ⟨R_R, "addWrap", "(I)V"⟩
abbrev k_R_addWrap : Cond := .code y_R_addWrap c_R_addWrap 3 none
abbrev c_R_unwrap : ByteArray := prog_8_method_23_code
def y_R_unwrap : MethodName := ⟨R_R, "unwrap", "(II)J"⟩
abbrev k_R_unwrap : Cond := .code y_R_unwrap c_R_unwrap 7 (some .long)
abbrev c_R_refusal : ByteArray := prog_8_method_22_code
def y_R_refusal : MethodName := ⟨R_R, "refusal", "(II)I"⟩
abbrev k_R_refusal : Cond := .code y_R_refusal c_R_refusal 3 (some .int)
abbrev c_R_readFrom : ByteArray := prog_8_method_20_code
def y_R_readFrom : MethodName := ⟨R_R, "readFrom", "(II)I"⟩
abbrev k_R_readFrom : Cond := .code y_R_readFrom c_R_readFrom 5 (some .int)
abbrev c_R_shifted : ByteArray := prog_8_method_19_code
def y_R_shifted : MethodName := ⟨R_R, "shifted", "(IIII)I"⟩
abbrev k_R_shifted : Cond := .code y_R_shifted c_R_shifted 7 (some .int)
abbrev c_R_wrapEntry : ByteArray := prog_8_method_18_code
def y_R_wrapEntry : MethodName := ⟨R_R, "wrapEntry", "(II)I"⟩
abbrev k_R_wrapEntry : Cond := .code y_R_wrapEntry c_R_wrapEntry 5 (some .int)
abbrev c_R_change : ByteArray := prog_8_method_25_code
def y_R_change : MethodName := ⟨R_R, "change", "(III)I"⟩
abbrev k_R_change : Cond := .code y_R_change c_R_change 4 (some .int)
abbrev c_R_byteRefusal : ByteArray := prog_8_method_24_code
def y_R_byteRefusal : MethodName := ⟨R_R, "byteRefusal", "(II)I"⟩
abbrev k_R_byteRefusal : Cond := .code y_R_byteRefusal c_R_byteRefusal 3 (some .int)
abbrev c_R_copy : ByteArray := prog_8_method_26_code
def y_R_copy : MethodName := ⟨R_R, "copy", "(II)V"⟩
abbrev k_R_copy : Cond := .code y_R_copy c_R_copy 4 none
abbrev c_R_forget : ByteArray := prog_8_method_27_code
def y_R_forget : MethodName := ⟨R_R, "forget", "(ZI)Z"⟩
abbrev k_R_forget : Cond := .code y_R_forget c_R_forget 4 (some .boolean)
abbrev c_R_wrapByte : ByteArray := prog_8_method_28_code
def y_R_wrapByte : MethodName := ⟨R_R, "wrapByte", "(II)I"⟩
abbrev k_R_wrapByte : Cond := .code y_R_wrapByte c_R_wrapByte 3 (some .int)
abbrev c_R_publicByte : ByteArray := prog_8_method_29_code
def y_R_publicByte : MethodName := ⟨R_R, "publicByte", "(II)I"⟩
abbrev k_R_publicByte : Cond := .code y_R_publicByte c_R_publicByte 3 (some .int)
abbrev c_R_entry : ByteArray := prog_8_method_30_code
def y_R_entry : MethodName := ⟨R_R, "entry", "(IIII)I"⟩
abbrev k_R_entry : Cond := .code y_R_entry c_R_entry 6 (some .int)
abbrev c_R_noise : ByteArray := prog_8_method_31_code
def y_R_noise : MethodName := ⟨R_R, "noise", "(IIII)I"⟩
abbrev k_R_noise : Cond := .code y_R_noise c_R_noise 5 (some .int)
abbrev c_R_read : ByteArray := prog_8_method_32_code
def y_R_read : MethodName := ⟨R_R, "read", "(II)I"⟩
abbrev k_R_read : Cond := .code y_R_read c_R_read 3 (some .int)
abbrev c_R_shake : ByteArray := prog_8_method_33_code
def y_R_shake : MethodName := ⟨R_R, "shake", "(IJ)J"⟩
abbrev k_R_shake : Cond := .code y_R_shake c_R_shake 4 (some .long)
end NM
