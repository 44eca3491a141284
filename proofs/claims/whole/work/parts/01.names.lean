-- ===== PART A: goes FIRST, ahead of the names: the tables' words, and 'selects' of the private methods out of them =====
/-- a private method of a class that the tables say can be made, by its rows of tables_1 -/
def lw_okq (q : MethodName × Nat) : Prop := (q.1.cls ≠ "java/lang/invoke/MethodHandle" ∧ q.1.cls ≠ "java/lang/invoke/VarHandle") ∧ Cond.instantiable q.1.cls q.2 ∈ tables_1 ∧ Cond.privateMethod q.1 ∈ tables_1 ∧ Cond.instanceMethod q.1 ∈ tables_1
theorem lw_p0 : lw_okq (⟨"BracketSweep", "orderAsGiven", "()V"⟩, 11) := ⟨⟨by decide +kernel, by decide +kernel⟩, List.mem_of_getElem? (i := 8) (by decide +kernel), List.mem_of_getElem? (i := 45) (by decide +kernel), List.mem_of_getElem? (i := 46) (by decide +kernel)⟩
theorem lw_p1 : lw_okq (⟨"BracketSweep", "countStanding", "()V"⟩, 11) := ⟨⟨by decide +kernel, by decide +kernel⟩, List.mem_of_getElem? (i := 8) (by decide +kernel), List.mem_of_getElem? (i := 102) (by decide +kernel), List.mem_of_getElem? (i := 103) (by decide +kernel)⟩
theorem lw_p2 : lw_okq (⟨"BracketSweep", "isCrossing", "(I)Z"⟩, 11) := ⟨⟨by decide +kernel, by decide +kernel⟩, List.mem_of_getElem? (i := 8) (by decide +kernel), List.mem_of_getElem? (i := 113) (by decide +kernel), List.mem_of_getElem? (i := 114) (by decide +kernel)⟩
theorem lw_p3 : lw_okq (⟨"BracketSweep", "isCode", "()Z"⟩, 11) := ⟨⟨by decide +kernel, by decide +kernel⟩, List.mem_of_getElem? (i := 8) (by decide +kernel), List.mem_of_getElem? (i := 117) (by decide +kernel), List.mem_of_getElem? (i := 118) (by decide +kernel)⟩
theorem lw_p4 : lw_okq (⟨"BracketSweep", "goOverNone", "()V"⟩, 11) := ⟨⟨by decide +kernel, by decide +kernel⟩, List.mem_of_getElem? (i := 8) (by decide +kernel), List.mem_of_getElem? (i := 122) (by decide +kernel), List.mem_of_getElem? (i := 123) (by decide +kernel)⟩
theorem lw_p5 : lw_okq (⟨"BracketSweep", "mostJoined", "()I"⟩, 11) := ⟨⟨by decide +kernel, by decide +kernel⟩, List.mem_of_getElem? (i := 8) (by decide +kernel), List.mem_of_getElem? (i := 126) (by decide +kernel), List.mem_of_getElem? (i := 127) (by decide +kernel)⟩
theorem lw_p6 : lw_okq (⟨"BracketSweep", "placesJoined", "(I)I"⟩, 11) := ⟨⟨by decide +kernel, by decide +kernel⟩, List.mem_of_getElem? (i := 8) (by decide +kernel), List.mem_of_getElem? (i := 130) (by decide +kernel), List.mem_of_getElem? (i := 131) (by decide +kernel)⟩
theorem lw_p7 : lw_okq (⟨"BracketSweep", "goOver", "(I)I"⟩, 11) := ⟨⟨by decide +kernel, by decide +kernel⟩, List.mem_of_getElem? (i := 8) (by decide +kernel), List.mem_of_getElem? (i := 134) (by decide +kernel), List.mem_of_getElem? (i := 135) (by decide +kernel)⟩
theorem lw_p8 : lw_okq (⟨"BracketSweep", "workOut", "()V"⟩, 11) := ⟨⟨by decide +kernel, by decide +kernel⟩, List.mem_of_getElem? (i := 8) (by decide +kernel), List.mem_of_getElem? (i := 145) (by decide +kernel), List.mem_of_getElem? (i := 146) (by decide +kernel)⟩
theorem lw_p9 : lw_okq (⟨"BracketSweep", "tallyStates", "()V"⟩, 11) := ⟨⟨by decide +kernel, by decide +kernel⟩, List.mem_of_getElem? (i := 8) (by decide +kernel), List.mem_of_getElem? (i := 156) (by decide +kernel), List.mem_of_getElem? (i := 157) (by decide +kernel)⟩
theorem lw_p10 : lw_okq (⟨"BracketSweep$Ways", "join", "(II)I"⟩, 2) := ⟨⟨by decide +kernel, by decide +kernel⟩, List.mem_of_getElem? (i := 16) (by decide +kernel), List.mem_of_getElem? (i := 172) (by decide +kernel), List.mem_of_getElem? (i := 173) (by decide +kernel)⟩
theorem lw_p11 : lw_okq (⟨"BracketSweep$Ways", "part", "(II)V"⟩, 2) := ⟨⟨by decide +kernel, by decide +kernel⟩, List.mem_of_getElem? (i := 16) (by decide +kernel), List.mem_of_getElem? (i := 180) (by decide +kernel), List.mem_of_getElem? (i := 181) (by decide +kernel)⟩
theorem lw_p12 : lw_okq (⟨"BracketSweep", "sumTally", "()V"⟩, 11) := ⟨⟨by decide +kernel, by decide +kernel⟩, List.mem_of_getElem? (i := 8) (by decide +kernel), List.mem_of_getElem? (i := 184) (by decide +kernel), List.mem_of_getElem? (i := 185) (by decide +kernel)⟩
theorem lw_p13 : lw_okq (⟨"BracketSweep", "sumOfSigns", "()I"⟩, 11) := ⟨⟨by decide +kernel, by decide +kernel⟩, List.mem_of_getElem? (i := 8) (by decide +kernel), List.mem_of_getElem? (i := 215) (by decide +kernel), List.mem_of_getElem? (i := 216) (by decide +kernel)⟩
theorem lw_p14 : lw_okq (⟨"BracketSweep", "lookAtAll", "(I)I"⟩, 11) := ⟨⟨by decide +kernel, by decide +kernel⟩, List.mem_of_getElem? (i := 8) (by decide +kernel), List.mem_of_getElem? (i := 237) (by decide +kernel), List.mem_of_getElem? (i := 238) (by decide +kernel)⟩
theorem lw_p15 : lw_okq (⟨"BracketSweep", "unite", "(II)V"⟩, 11) := ⟨⟨by decide +kernel, by decide +kernel⟩, List.mem_of_getElem? (i := 8) (by decide +kernel), List.mem_of_getElem? (i := 251) (by decide +kernel), List.mem_of_getElem? (i := 252) (by decide +kernel)⟩
def lw_privs_1 : List (MethodName × Nat) := [(⟨"BracketSweep", "orderAsGiven", "()V"⟩, 11), (⟨"BracketSweep", "countStanding", "()V"⟩, 11), (⟨"BracketSweep", "isCrossing", "(I)Z"⟩, 11), (⟨"BracketSweep", "isCode", "()Z"⟩, 11), (⟨"BracketSweep", "goOverNone", "()V"⟩, 11), (⟨"BracketSweep", "mostJoined", "()I"⟩, 11), (⟨"BracketSweep", "placesJoined", "(I)I"⟩, 11), (⟨"BracketSweep", "goOver", "(I)I"⟩, 11), (⟨"BracketSweep", "workOut", "()V"⟩, 11), (⟨"BracketSweep", "tallyStates", "()V"⟩, 11), (⟨"BracketSweep$Ways", "join", "(II)I"⟩, 2), (⟨"BracketSweep$Ways", "part", "(II)V"⟩, 2), (⟨"BracketSweep", "sumTally", "()V"⟩, 11), (⟨"BracketSweep", "sumOfSigns", "()I"⟩, 11), (⟨"BracketSweep", "lookAtAll", "(I)I"⟩, 11), (⟨"BracketSweep", "unite", "(II)V"⟩, 11)]
theorem lw_r1 : ∀ q ∈ lw_privs_1, lw_okq q := List.forall_mem_cons.mpr ⟨lw_p0, List.forall_mem_cons.mpr ⟨lw_p1, List.forall_mem_cons.mpr ⟨lw_p2, List.forall_mem_cons.mpr ⟨lw_p3, List.forall_mem_cons.mpr ⟨lw_p4, List.forall_mem_cons.mpr ⟨lw_p5, List.forall_mem_cons.mpr ⟨lw_p6, List.forall_mem_cons.mpr ⟨lw_p7, List.forall_mem_cons.mpr ⟨lw_p8, List.forall_mem_cons.mpr ⟨lw_p9, List.forall_mem_cons.mpr ⟨lw_p10, List.forall_mem_cons.mpr ⟨lw_p11, List.forall_mem_cons.mpr ⟨lw_p12, List.forall_mem_cons.mpr ⟨lw_p13, List.forall_mem_cons.mpr ⟨lw_p14, List.forall_mem_cons.mpr ⟨lw_p15, fun _ h => absurd h List.not_mem_nil⟩⟩⟩⟩⟩⟩⟩⟩⟩⟩⟩⟩⟩⟩⟩⟩
theorem lw_p16 : lw_okq (⟨"BracketSweep", "carry", "(II)V"⟩, 11) := ⟨⟨by decide +kernel, by decide +kernel⟩, List.mem_of_getElem? (i := 8) (by decide +kernel), List.mem_of_getElem? (i := 255) (by decide +kernel), List.mem_of_getElem? (i := 256) (by decide +kernel)⟩
theorem lw_p17 : lw_okq (⟨"BracketSweep", "swapWithNext", "(I)V"⟩, 11) := ⟨⟨by decide +kernel, by decide +kernel⟩, List.mem_of_getElem? (i := 8) (by decide +kernel), List.mem_of_getElem? (i := 259) (by decide +kernel), List.mem_of_getElem? (i := 260) (by decide +kernel)⟩
theorem lw_p18 : lw_okq (⟨"BracketSweepModel", "standing", "(I)I"⟩, 13) := ⟨⟨by decide +kernel, by decide +kernel⟩, List.mem_of_getElem? (i := 271) (by decide +kernel), List.mem_of_getElem? (i := 332) (by decide +kernel), List.mem_of_getElem? (i := 333) (by decide +kernel)⟩
theorem lw_p19 : lw_okq (⟨"BracketSweepModel", "findMates", "()V"⟩, 13) := ⟨⟨by decide +kernel, by decide +kernel⟩, List.mem_of_getElem? (i := 271) (by decide +kernel), List.mem_of_getElem? (i := 341) (by decide +kernel), List.mem_of_getElem? (i := 342) (by decide +kernel)⟩
theorem lw_p20 : lw_okq (⟨"BracketSweepModel", "ways", "(I)I"⟩, 13) := ⟨⟨by decide +kernel, by decide +kernel⟩, List.mem_of_getElem? (i := 271) (by decide +kernel), List.mem_of_getElem? (i := 345) (by decide +kernel), List.mem_of_getElem? (i := 346) (by decide +kernel)⟩
theorem lw_p21 : lw_okq (⟨"BracketSweepModel", "know", "()V"⟩, 13) := ⟨⟨by decide +kernel, by decide +kernel⟩, List.mem_of_getElem? (i := 271) (by decide +kernel), List.mem_of_getElem? (i := 356) (by decide +kernel), List.mem_of_getElem? (i := 357) (by decide +kernel)⟩
theorem lw_p22 : lw_okq (⟨"BracketSweepModel", "expand", "(III)V"⟩, 13) := ⟨⟨by decide +kernel, by decide +kernel⟩, List.mem_of_getElem? (i := 271) (by decide +kernel), List.mem_of_getElem? (i := 363) (by decide +kernel), List.mem_of_getElem? (i := 364) (by decide +kernel)⟩
theorem lw_p23 : lw_okq (⟨"BracketSweepModel", "signs", "()I"⟩, 13) := ⟨⟨by decide +kernel, by decide +kernel⟩, List.mem_of_getElem? (i := 271) (by decide +kernel), List.mem_of_getElem? (i := 371) (by decide +kernel), List.mem_of_getElem? (i := 372) (by decide +kernel)⟩
theorem lw_p24 : lw_okq (⟨"BracketSweepModel", "open", "()I"⟩, 13) := ⟨⟨by decide +kernel, by decide +kernel⟩, List.mem_of_getElem? (i := 271) (by decide +kernel), List.mem_of_getElem? (i := 384) (by decide +kernel), List.mem_of_getElem? (i := 385) (by decide +kernel)⟩
theorem lw_p25 : lw_okq (⟨"BracketSweepModel", "touching", "(I)I"⟩, 13) := ⟨⟨by decide +kernel, by decide +kernel⟩, List.mem_of_getElem? (i := 271) (by decide +kernel), List.mem_of_getElem? (i := 388) (by decide +kernel), List.mem_of_getElem? (i := 389) (by decide +kernel)⟩
theorem lw_p26 : lw_okq (⟨"BracketSweepModel", "stands", "(I)Z"⟩, 13) := ⟨⟨by decide +kernel, by decide +kernel⟩, List.mem_of_getElem? (i := 271) (by decide +kernel), List.mem_of_getElem? (i := 392) (by decide +kernel), List.mem_of_getElem? (i := 393) (by decide +kernel)⟩
theorem lw_p27 : lw_okq (⟨"BracketSweepModel", "closing", "(IZ)I"⟩, 13) := ⟨⟨by decide +kernel, by decide +kernel⟩, List.mem_of_getElem? (i := 271) (by decide +kernel), List.mem_of_getElem? (i := 404) (by decide +kernel), List.mem_of_getElem? (i := 405) (by decide +kernel)⟩
theorem lw_p28 : lw_okq (⟨"BracketSweepModel", "join", "(II)I"⟩, 13) := ⟨⟨by decide +kernel, by decide +kernel⟩, List.mem_of_getElem? (i := 271) (by decide +kernel), List.mem_of_getElem? (i := 408) (by decide +kernel), List.mem_of_getElem? (i := 409) (by decide +kernel)⟩
theorem lw_p29 : lw_okq (⟨"BracketSweepModel", "become", "(II)V"⟩, 13) := ⟨⟨by decide +kernel, by decide +kernel⟩, List.mem_of_getElem? (i := 271) (by decide +kernel), List.mem_of_getElem? (i := 412) (by decide +kernel), List.mem_of_getElem? (i := 413) (by decide +kernel)⟩
theorem lw_p30 : lw_okq (⟨"BracketSweepModel", "exchange", "(I)V"⟩, 13) := ⟨⟨by decide +kernel, by decide +kernel⟩, List.mem_of_getElem? (i := 271) (by decide +kernel), List.mem_of_getElem? (i := 424) (by decide +kernel), List.mem_of_getElem? (i := 425) (by decide +kernel)⟩
def lw_privs_2 : List (MethodName × Nat) := [(⟨"BracketSweep", "carry", "(II)V"⟩, 11), (⟨"BracketSweep", "swapWithNext", "(I)V"⟩, 11), (⟨"BracketSweepModel", "standing", "(I)I"⟩, 13), (⟨"BracketSweepModel", "findMates", "()V"⟩, 13), (⟨"BracketSweepModel", "ways", "(I)I"⟩, 13), (⟨"BracketSweepModel", "know", "()V"⟩, 13), (⟨"BracketSweepModel", "expand", "(III)V"⟩, 13), (⟨"BracketSweepModel", "signs", "()I"⟩, 13), (⟨"BracketSweepModel", "open", "()I"⟩, 13), (⟨"BracketSweepModel", "touching", "(I)I"⟩, 13), (⟨"BracketSweepModel", "stands", "(I)Z"⟩, 13), (⟨"BracketSweepModel", "closing", "(IZ)I"⟩, 13), (⟨"BracketSweepModel", "join", "(II)I"⟩, 13), (⟨"BracketSweepModel", "become", "(II)V"⟩, 13), (⟨"BracketSweepModel", "exchange", "(I)V"⟩, 13)]
theorem lw_r2 : ∀ q ∈ lw_privs_2, lw_okq q := List.forall_mem_cons.mpr ⟨lw_p16, List.forall_mem_cons.mpr ⟨lw_p17, List.forall_mem_cons.mpr ⟨lw_p18, List.forall_mem_cons.mpr ⟨lw_p19, List.forall_mem_cons.mpr ⟨lw_p20, List.forall_mem_cons.mpr ⟨lw_p21, List.forall_mem_cons.mpr ⟨lw_p22, List.forall_mem_cons.mpr ⟨lw_p23, List.forall_mem_cons.mpr ⟨lw_p24, List.forall_mem_cons.mpr ⟨lw_p25, List.forall_mem_cons.mpr ⟨lw_p26, List.forall_mem_cons.mpr ⟨lw_p27, List.forall_mem_cons.mpr ⟨lw_p28, List.forall_mem_cons.mpr ⟨lw_p29, List.forall_mem_cons.mpr ⟨lw_p30, fun _ h => absurd h List.not_mem_nil⟩⟩⟩⟩⟩⟩⟩⟩⟩⟩⟩⟩⟩⟩⟩
def lw_privs : List (MethodName × Nat) := lw_privs_1 ++ (lw_privs_2)
def lw_tbl : List Cond := k2_sels lw_privs ++ tables_1
theorem lw_privs_ok : ∀ q ∈ lw_privs, lw_okq q := by
  show ∀ q ∈ lw_privs_1 ++ (lw_privs_2), lw_okq q
  exact List.forall_mem_append.mpr ⟨lw_r1, lw_r2⟩
/-- the words that may go from a method to those that it calls -/
def lw_g : List Cond := lw_tbl.filter goodWord
theorem lg_in {w : Cond} (h : w ∈ lw_tbl) (hg : goodWord w = true) : w ∈ lw_g := List.mem_filter.mpr ⟨h, hg⟩
def R_B : String := "BracketSweep"
def F_B : u_T := fun k => match k with
  | 0 => ("BracketSweep", "labels", "[I", true)
  | 1 => ("BracketSweep", "signs", "[I", true)
  | 2 => ("BracketSweep", "crossingCount", "I", false)
  | 3 => ("BracketSweep", "circleCount", "I", false)
  | 4 => ("BracketSweep", "order", "[I", true)
  | 5 => ("BracketSweep", "standing", "[I", true)
  | 6 => ("BracketSweep", "goneOver", "[Z", true)
  | 7 => ("BracketSweep", "tally", "[I", true)
  | 8 => ("BracketSweep", "ways", "LBracketSweep$Ways;", true)
  | 9 => ("BracketSweep", "sum", "LBracketSweep$Polynomial;", true)
  | _ => ("BracketSweep", "workedOut", "Z", false)
def t_B : Nat → FieldType := fun k => match k with
  | 0 => .array .int
  | 1 => .array .int
  | 2 => .int
  | 3 => .int
  | 4 => .array .int
  | 5 => .array .int
  | 6 => .array .boolean
  | 7 => .array .int
  | 8 => .object "BracketSweep$Ways"
  | 9 => .object "BracketSweep$Polynomial"
  | _ => .boolean
theorem n_B : ∀ a, a < 11 → ∀ b, b < 11 → a ≠ b → (F_B a).2.1 ≠ (F_B b).2.1 := by decide +kernel
theorem t_B_ok : ∀ k, k < 11 → parseFieldDescriptor (F_B k).2.2.1 = some (t_B k) := by decide +kernel
theorem iC_B : ∀ w ∈ u_ws R_B F_B 11, w ∈ lw_g := fun w h => lg_in ((by decide +kernel : ∀ w ∈ u_ws R_B F_B 11, w ∈ lw_tbl) w h) (List.all_eq_true.mp (by decide +kernel : (u_ws R_B F_B 11).all goodWord = true) w h)
def R_W : String := "BracketSweep$Ways"
def F_W : u_T := fun k => match k with
  | 0 => ("BracketSweep$Ways", "otherEnd", "[I", true)
  | _ => ("BracketSweep$Ways", "firstPlace", "[I", true)
def t_W : Nat → FieldType := fun k => match k with
  | 0 => .array .int
  | _ => .array .int
theorem n_W : ∀ a, a < 2 → ∀ b, b < 2 → a ≠ b → (F_W a).2.1 ≠ (F_W b).2.1 := by decide +kernel
theorem t_W_ok : ∀ k, k < 2 → parseFieldDescriptor (F_W k).2.2.1 = some (t_W k) := by decide +kernel
theorem iC_W : ∀ w ∈ u_ws R_W F_W 2, w ∈ lw_g := fun w h => lg_in ((by decide +kernel : ∀ w ∈ u_ws R_W F_W 2, w ∈ lw_tbl) w h) (List.all_eq_true.mp (by decide +kernel : (u_ws R_W F_W 2).all goodWord = true) w h)
def R_P : String := "BracketSweep$Polynomial"
def F_P : u_T := fun k => match k with
  | 0 => ("BracketSweep$Polynomial", "row", "[J", false)
  | _ => ("BracketSweep$Polynomial", "spare", "[J", false)
def t_P : Nat → FieldType := fun k => match k with
  | 0 => .array .long
  | _ => .array .long
theorem n_P : ∀ a, a < 2 → ∀ b, b < 2 → a ≠ b → (F_P a).2.1 ≠ (F_P b).2.1 := by decide +kernel
theorem t_P_ok : ∀ k, k < 2 → parseFieldDescriptor (F_P k).2.2.1 = some (t_P k) := by decide +kernel
theorem iC_P : ∀ w ∈ u_ws R_P F_P 2, w ∈ lw_g := fun w h => lg_in ((by decide +kernel : ∀ w ∈ u_ws R_P F_P 2, w ∈ lw_tbl) w h) (List.all_eq_true.mp (by decide +kernel : (u_ws R_P F_P 2).all goodWord = true) w h)
def R_M : String := "BracketSweepModel"
def F_M : u_T := fun k => match k with
  | 0 => ("BracketSweepModel", "thrown", "I", false)
  | 1 => ("BracketSweepModel", "n", "I", false)
  | 2 => ("BracketSweepModel", "circles", "I", false)
  | 3 => ("BracketSweepModel", "sign", "[I", true)
  | 4 => ("BracketSweepModel", "label", "[I", true)
  | 5 => ("BracketSweepModel", "mate", "[I", true)
  | 6 => ("BracketSweepModel", "met", "[Z", true)
  | 7 => ("BracketSweepModel", "over", "[Z", true)
  | 8 => ("BracketSweepModel", "known", "Z", false)
  | 9 => ("BracketSweepModel", "row", "[J", true)
  | 10 => ("BracketSweepModel", "tally", "[I", true)
  | 11 => ("BracketSweepModel", "binomial", "[J", true)
  | _ => ("BracketSweepModel", "four", "[I", true)
def t_M : Nat → FieldType := fun k => match k with
  | 0 => .int
  | 1 => .int
  | 2 => .int
  | 3 => .array .int
  | 4 => .array .int
  | 5 => .array .int
  | 6 => .array .boolean
  | 7 => .array .boolean
  | 8 => .boolean
  | 9 => .array .long
  | 10 => .array .int
  | 11 => .array .long
  | _ => .array .int
theorem n_M : ∀ a, a < 13 → ∀ b, b < 13 → a ≠ b → (F_M a).2.1 ≠ (F_M b).2.1 := by decide +kernel
theorem t_M_ok : ∀ k, k < 13 → parseFieldDescriptor (F_M k).2.2.1 = some (t_M k) := by decide +kernel
theorem iC_M : ∀ w ∈ u_ws R_M F_M 13, w ∈ lw_g := fun w h => lg_in ((by decide +kernel : ∀ w ∈ u_ws R_M F_M 13, w ∈ lw_tbl) w h) (List.all_eq_true.mp (by decide +kernel : (u_ws R_M F_M 13).all goodWord = true) w h)
abbrev classes : List vw_C := [(R_B, F_B, 11), (R_W, F_W, 2), (R_P, F_P, 2), (R_M, F_M, 13)]
abbrev b_B_init : ByteArray := prog_1_method_1_code
def y_B_init : MethodName := ⟨R_B, "<init>", "()V"⟩
abbrev b_W_init : ByteArray := prog_3_method_1_code
def y_W_init : MethodName := ⟨R_W, "<init>", "()V"⟩
abbrev b_P_init : ByteArray := prog_2_method_1_code
def y_P_init : MethodName := ⟨R_P, "<init>", "()V"⟩
abbrev b_B_orderAsGiven : ByteArray := prog_1_method_18_code
def y_B_orderAsGiven : MethodName := ⟨R_B, "orderAsGiven", "()V"⟩
abbrev b_B_crossing : ByteArray := prog_1_method_2_code
def y_B_crossing : MethodName := ⟨R_B, "crossing", "(IIIII)I"⟩
abbrev b_B_isLabel : ByteArray := prog_1_method_15_code
def y_B_isLabel : MethodName := ⟨R_B, "isLabel", "(I)Z"⟩
abbrev b_B_circles : ByteArray := prog_1_method_3_code
def y_B_circles : MethodName := ⟨R_B, "circles", "(I)I"⟩
abbrev b_B_clear : ByteArray := prog_1_method_4_code
def y_B_clear : MethodName := ⟨R_B, "clear", "()I"⟩
abbrev b_B_fault : ByteArray := prog_1_method_5_code
def y_B_fault : MethodName := ⟨R_B, "fault", "()I"⟩
abbrev b_B_countStanding : ByteArray := prog_1_method_19_code
def y_B_countStanding : MethodName := ⟨R_B, "countStanding", "()V"⟩
abbrev b_fillI : ByteArray := prog_7_method_103_code
def y_fillI : MethodName := ⟨"java/util/Arrays", "fill", "([II)V"⟩
abbrev b_B_sweep : ByteArray := prog_1_method_6_code
def y_B_sweep : MethodName := ⟨R_B, "sweep", "(I)I"⟩
abbrev b_B_isCrossing : ByteArray := prog_1_method_16_code
def y_B_isCrossing : MethodName := ⟨R_B, "isCrossing", "(I)Z"⟩
abbrev b_B_isCode : ByteArray := prog_1_method_17_code
def y_B_isCode : MethodName := ⟨R_B, "isCode", "()Z"⟩
abbrev b_B_goOverNone : ByteArray := prog_1_method_22_code
def y_B_goOverNone : MethodName := ⟨R_B, "goOverNone", "()V"⟩
abbrev b_B_mostJoined : ByteArray := prog_1_method_23_code
def y_B_mostJoined : MethodName := ⟨R_B, "mostJoined", "()I"⟩
abbrev b_B_placesJoined : ByteArray := prog_1_method_24_code
def y_B_placesJoined : MethodName := ⟨R_B, "placesJoined", "(I)I"⟩
abbrev b_B_goOver : ByteArray := prog_1_method_25_code
def y_B_goOver : MethodName := ⟨R_B, "goOver", "(I)I"⟩
abbrev b_B_bracket : ByteArray := prog_1_method_7_code
def y_B_bracket : MethodName := ⟨R_B, "bracket", "(I)J"⟩
abbrev b_B_workOut : ByteArray := prog_1_method_30_code
def y_B_workOut : MethodName := ⟨R_B, "workOut", "()V"⟩
abbrev b_P_setZero : ByteArray := prog_2_method_2_code
def y_P_setZero : MethodName := ⟨R_P, "setZero", "()V"⟩
abbrev b_fillJ : ByteArray := prog_7_method_101_code
def y_fillJ : MethodName := ⟨"java/util/Arrays", "fill", "([JJ)V"⟩
abbrev b_B_tallyStates : ByteArray := prog_1_method_31_code
def y_B_tallyStates : MethodName := ⟨R_B, "tallyStates", "()V"⟩
abbrev b_W_followLabels : ByteArray := prog_3_method_2_code
def y_W_followLabels : MethodName := ⟨R_W, "followLabels", "([II)V"⟩
abbrev b_B_tallyFrom : ByteArray := prog_1_method_32_code
def y_B_tallyFrom : MethodName := ⟨R_B, "tallyFrom", "(LBracketSweep;III)V"⟩
abbrev b_W_smooth : ByteArray := prog_3_method_3_code
def y_W_smooth : MethodName := ⟨R_W, "smooth", "(IZ)I"⟩
abbrev b_W_join : ByteArray := prog_3_method_5_code
def y_W_join : MethodName := ⟨R_W, "join", "(II)I"⟩
abbrev b_W_undo : ByteArray := prog_3_method_4_code
def y_W_undo : MethodName := ⟨R_W, "undo", "(IZ)V"⟩
abbrev b_W_part : ByteArray := prog_3_method_6_code
def y_W_part : MethodName := ⟨R_W, "part", "(II)V"⟩
abbrev b_B_sumTally : ByteArray := prog_1_method_33_code
def y_B_sumTally : MethodName := ⟨R_B, "sumTally", "()V"⟩
abbrev b_P_isZero : ByteArray := prog_2_method_6_code
def y_P_isZero : MethodName := ⟨R_P, "isZero", "()Z"⟩
abbrev b_P_least : ByteArray := prog_2_method_7_code
def y_P_least : MethodName := ⟨R_P, "least", "()I"⟩
abbrev b_P_timesD : ByteArray := prog_2_method_5_code
def y_P_timesD : MethodName := ⟨R_P, "timesD", "()V"⟩
abbrev b_P_at : ByteArray := prog_2_method_3_code
def y_P_at : MethodName := ⟨R_P, "at", "(J)J"⟩
abbrev b_P_add : ByteArray := prog_2_method_4_code
def y_P_add : MethodName := ⟨R_P, "add", "(IJ)V"⟩
abbrev b_B_jones : ByteArray := prog_1_method_8_code
def y_B_jones : MethodName := ⟨R_B, "jones", "(I)J"⟩
abbrev b_B_sumOfSigns : ByteArray := prog_1_method_20_code
def y_B_sumOfSigns : MethodName := ⟨R_B, "sumOfSigns", "()I"⟩
abbrev b_B_span : ByteArray := prog_1_method_9_code
def y_B_span : MethodName := ⟨R_B, "span", "(ZZ)I"⟩
abbrev b_P_greatest : ByteArray := prog_2_method_8_code
def y_P_greatest : MethodName := ⟨R_P, "greatest", "()I"⟩
abbrev b_B_state : ByteArray := prog_1_method_10_code
def y_B_state : MethodName := ⟨R_B, "state", "(I)I"⟩
abbrev b_B_look : ByteArray := prog_1_method_11_code
def y_B_look : MethodName := ⟨R_B, "look", "(II)I"⟩
abbrev b_B_lookAtAll : ByteArray := prog_1_method_21_code
def y_B_lookAtAll : MethodName := ⟨R_B, "lookAtAll", "(I)I"⟩
abbrev b_B_resolve : ByteArray := prog_1_method_12_code
def y_B_resolve : MethodName := ⟨R_B, "resolve", "(IZ)Z"⟩
abbrev b_B_renamed : ByteArray := prog_1_method_26_code
def y_B_renamed : MethodName := ⟨R_B, "renamed", "(III)I"⟩
abbrev b_B_unite : ByteArray := prog_1_method_27_code
def y_B_unite : MethodName := ⟨R_B, "unite", "(II)V"⟩
abbrev b_B_carry : ByteArray := prog_1_method_28_code
def y_B_carry : MethodName := ⟨R_B, "carry", "(II)V"⟩
abbrev b_B_swapWithNext : ByteArray := prog_1_method_29_code
def y_B_swapWithNext : MethodName := ⟨R_B, "swapWithNext", "(I)V"⟩
abbrev b_B_change : ByteArray := prog_1_method_13_code
def y_B_change : MethodName := ⟨R_B, "change", "(I)Z"⟩
abbrev b_B_move : ByteArray := prog_1_method_14_code
def y_B_move : MethodName := ⟨R_B, "move", "(II)Z"⟩
abbrev b_M_init : ByteArray := prog_5_method_1_code
def y_M_init : MethodName := ⟨R_M, "<init>", "()V"⟩
abbrev b_M_crossing : ByteArray := prog_5_method_3_code
def y_M_crossing : MethodName := ⟨R_M, "crossing", "(IIIII)I"⟩
abbrev b_M_circles : ByteArray := prog_5_method_4_code
def y_M_circles : MethodName := ⟨R_M, "circles", "(I)I"⟩
abbrev b_M_clear : ByteArray := prog_5_method_5_code
def y_M_clear : MethodName := ⟨R_M, "clear", "()I"⟩
abbrev b_M_fault : ByteArray := prog_5_method_7_code
def y_M_fault : MethodName := ⟨R_M, "fault", "()I"⟩
abbrev b_M_standing : ByteArray := prog_5_method_6_code
def y_M_standing : MethodName := ⟨R_M, "standing", "(I)I"⟩
abbrev b_M_state : ByteArray := prog_5_method_11_code
def y_M_state : MethodName := ⟨R_M, "state", "(I)I"⟩
abbrev b_M_findMates : ByteArray := prog_5_method_8_code
def y_M_findMates : MethodName := ⟨R_M, "findMates", "()V"⟩
abbrev b_M_ways : ByteArray := prog_5_method_10_code
def y_M_ways : MethodName := ⟨R_M, "ways", "(I)I"⟩
abbrev b_M_joined : ByteArray := prog_5_method_9_code
def y_M_joined : MethodName := ⟨R_M, "joined", "(IZ)I"⟩
abbrev b_M_bracket : ByteArray := prog_5_method_16_code
def y_M_bracket : MethodName := ⟨R_M, "bracket", "(I)J"⟩
abbrev b_M_know : ByteArray := prog_5_method_14_code
def y_M_know : MethodName := ⟨R_M, "know", "()V"⟩
abbrev b_M_bits : ByteArray := prog_5_method_12_code
def y_M_bits : MethodName := ⟨R_M, "bits", "(I)I"⟩
abbrev b_M_expand : ByteArray := prog_5_method_13_code
def y_M_expand : MethodName := ⟨R_M, "expand", "(III)V"⟩
abbrev b_M_jones : ByteArray := prog_5_method_17_code
def y_M_jones : MethodName := ⟨R_M, "jones", "(I)J"⟩
abbrev b_M_signs : ByteArray := prog_5_method_15_code
def y_M_signs : MethodName := ⟨R_M, "signs", "()I"⟩
abbrev b_M_span : ByteArray := prog_5_method_18_code
def y_M_span : MethodName := ⟨R_M, "span", "(ZZ)I"⟩
abbrev b_M_sweep : ByteArray := prog_5_method_22_code
def y_M_sweep : MethodName := ⟨R_M, "sweep", "(I)I"⟩
abbrev b_M_open : ByteArray := prog_5_method_21_code
def y_M_open : MethodName := ⟨R_M, "open", "()I"⟩
abbrev b_M_touching : ByteArray := prog_5_method_20_code
def y_M_touching : MethodName := ⟨R_M, "touching", "(I)I"⟩
abbrev b_M_stands : ByteArray := prog_5_method_19_code
def y_M_stands : MethodName := ⟨R_M, "stands", "(I)Z"⟩
abbrev b_M_look : ByteArray := prog_5_method_23_code
def y_M_look : MethodName := ⟨R_M, "look", "(II)I"⟩
abbrev b_M_resolve : ByteArray := prog_5_method_27_code
def y_M_resolve : MethodName := ⟨R_M, "resolve", "(IZ)Z"⟩
abbrev b_M_closing : ByteArray := prog_5_method_26_code
def y_M_closing : MethodName := ⟨R_M, "closing", "(IZ)I"⟩
abbrev b_M_join : ByteArray := prog_5_method_25_code
def y_M_join : MethodName := ⟨R_M, "join", "(II)I"⟩
abbrev b_M_become : ByteArray := prog_5_method_24_code
def y_M_become : MethodName := ⟨R_M, "become", "(II)V"⟩
abbrev b_M_change : ByteArray := prog_5_method_28_code
def y_M_change : MethodName := ⟨R_M, "change", "(I)Z"⟩
abbrev b_M_move : ByteArray := prog_5_method_30_code
def y_M_move : MethodName := ⟨R_M, "move", "(II)Z"⟩
abbrev b_M_exchange : ByteArray := prog_5_method_29_code
def y_M_exchange : MethodName := ⟨R_M, "exchange", "(I)V"⟩
def wB (a : Nat → Nat) (k : Nat → ClassId) (lab : Nat → Int32) (sg : Nat → Int32) (cc : Int32) (ci : Int32) (od : Nat → Int32) (sd : Nat → Int32) (go : Nat → Int32) (ta : Nat → Int32) (we : Int32) (oe : Nat → Int32) (fp : Nat → Int32) (ro : Nat → Int64) (sp : Nat → Int64) (qr : Nat) (qs : Nat) : va_W := [((a 0), .inr (0, [.ref (a 1), .ref (a 2), .int cc, .int ci, .ref (a 3), .ref (a 4), .ref (a 5), .ref (a 6), .ref (a 7), .ref (a 10), .int we])), ((a 1), .inl (k 1, 40, .inl lab)), ((a 2), .inl (k 2, 10, .inl sg)), ((a 3), .inl (k 3, 10, .inl od)), ((a 4), .inl (k 4, 100, .inl sd)), ((a 5), .inl (k 5, 10, .inl go)), ((a 6), .inl (k 6, 330, .inl ta)), ((a 7), .inr (1, [.ref (a 8), .ref (a 9)])), ((a 8), .inl (k 8, 40, .inl oe)), ((a 9), .inl (k 9, 100, .inl fp)), ((a 10), .inr (2, [.ref qr, .ref qs])), (qr, .inl (k 11, 133, .inr (.inl ro))), (qs, .inl (k 11, 133, .inr (.inl sp)))]
def wW (a : Nat → Nat) (k : Nat → ClassId) (oe : Nat → Int32) (fp : Nat → Int32) : va_W := [((a 7), .inr (1, [.ref (a 8), .ref (a 9)])), ((a 8), .inl (k 8, 40, .inl oe)), ((a 9), .inl (k 9, 100, .inl fp))]
def wL (a : Nat → Nat) (k : Nat → ClassId) (oe : Nat → Int32) (fp : Nat → Int32) (lab : Nat → Int32) : va_W := [((a 7), .inr (1, [.ref (a 8), .ref (a 9)])), ((a 8), .inl (k 8, 40, .inl oe)), ((a 9), .inl (k 9, 100, .inl fp)), ((a 1), .inl (k 1, 40, .inl lab))]
def wP (a : Nat → Nat) (k : Nat → ClassId) (ro : Nat → Int64) (sp : Nat → Int64) (qr : Nat) (qs : Nat) : va_W := [((a 10), .inr (2, [.ref qr, .ref qs])), (qr, .inl (k 11, 133, .inr (.inl ro))), (qs, .inl (k 11, 133, .inr (.inl sp)))]
def wM (a : Nat → Nat) (k : Nat → ClassId) (mh : Int32) (mn : Int32) (mc : Int32) (ms : Nat → Int32) (ml : Nat → Int32) (mm : Nat → Int32) (mt : Nat → Int32) (mo : Nat → Int32) (mk : Int32) (mr : Nat → Int64) (my : Nat → Int32) (mb : Nat → Int64) (mf : Nat → Int32) : va_W := [((a 20), .inr (3, [.int mh, .int mn, .int mc, .ref (a 21), .ref (a 22), .ref (a 23), .ref (a 24), .ref (a 25), .int mk, .ref (a 26), .ref (a 27), .ref (a 28), .ref (a 29)])), ((a 21), .inl (k 21, 10, .inl ms)), ((a 22), .inl (k 22, 40, .inl ml)), ((a 23), .inl (k 23, 40, .inl mm)), ((a 24), .inl (k 24, 40, .inl mt)), ((a 25), .inl (k 25, 10, .inl mo)), ((a 26), .inl (k 26, 260, .inr (.inl mr))), ((a 27), .inl (k 27, 672, .inl my)), ((a 28), .inl (k 28, 40, .inr (.inl mb))), ((a 29), .inl (k 29, 4, .inl mf))]
def wN (_a : Nat → Nat) (_k : Nat → ClassId) : va_W := []
