section
-- ===== PART A: goes FIRST, ahead of the names: the tables' words, and 'selects' of the private methods out of them =====
/-- a private method of a class that the tables say can be made, by its rows of tables_1 -/
def lw_okq (q : MethodName × Nat) : Prop := (q.1.cls ≠ "java/lang/invoke/MethodHandle" ∧ q.1.cls ≠ "java/lang/invoke/VarHandle") ∧ Cond.instantiable q.1.cls q.2 ∈ tables_1 ∧ Cond.privateMethod q.1 ∈ tables_1 ∧ Cond.instanceMethod q.1 ∈ tables_1
theorem lw_p0 : lw_okq (⟨"BracketSweep", "orderAsGiven", "()V"⟩, 11) := ⟨⟨by decide +kernel, by decide +kernel⟩, List.mem_of_getElem? (i := 8) (by decide +kernel), List.mem_of_getElem? (i := 45) (by decide +kernel), List.mem_of_getElem? (i := 46) (by decide +kernel)⟩
theorem lw_p1 : lw_okq (⟨"BracketSweep", "countStanding", "()V"⟩, 11) := ⟨⟨by decide +kernel, by decide +kernel⟩, List.mem_of_getElem? (i := 8) (by decide +kernel), List.mem_of_getElem? (i := 102) (by decide +kernel), List.mem_of_getElem? (i := 103) (by decide +kernel)⟩
theorem lw_p2 : lw_okq (⟨"BracketSweep", "isCrossing", "(I)Z"⟩, 11) := ⟨⟨by decide +kernel, by decide +kernel⟩, List.mem_of_getElem? (i := 8) (by decide +kernel), List.mem_of_getElem? (i := 113) (by decide +kernel), List.mem_of_getElem? (i := 114) (by decide +kernel)⟩
theorem lw_p3 : lw_okq (⟨"BracketSweep", "isCode", "()Z"⟩, 11) := ⟨⟨by decide +kernel, by decide +kernel⟩, List.mem_of_getElem? (i := 8) (by decide +kernel), List.mem_of_getElem? (i := 117) (by decide +kernel), List.mem_of_getElem? (i := 118) (by decide +kernel)⟩
theorem lw_p4 : lw_okq (⟨"BracketSweep", "goOverNone", "()V"⟩, 11) := ⟨⟨by decide +kernel, by decide +kernel⟩, List.mem_of_getElem? (i := 8) (by decide +kernel), List.mem_of_getElem? (i := 122) (by decide +kernel), List.mem_of_getElem? (i := 123) (by decide +kernel)⟩
theorem lw_p5 : lw_okq (⟨"BracketSweep", "mostJoined", "()I"⟩, 11) := ⟨⟨by decide +kernel, by decide +kernel⟩, List.mem_of_getElem? (i := 8) (by decide +kernel), List.mem_of_getElem? (i := 126) (by decide +kernel), List.mem_of_getElem? (i := 127) (by decide +kernel)⟩
theorem lw_p6 : lw_okq (⟨"BracketSweep", "placesJoined", "(I)I"⟩, 11) := ⟨⟨by decide +kernel, by decide +kernel⟩, List.mem_of_getElem? (i := 8) (by decide +kernel), List.mem_of_getElem? (i := 130) (by decide +kernel), List.mem_of_getElem? (i := 131) (by decide +kernel)⟩
theorem lw_p7 : lw_okq (⟨"BracketSweep", "goOver", "(I)I"⟩, 11) := ⟨⟨by decide +kernel, by decide +kernel⟩, List.mem_of_getElem? (i := 8) (by decide +kernel), List.mem_of_getElem? (i := 134) (by decide +kernel), List.mem_of_getElem? (i := 135) (by decide +kernel)⟩
theorem lw_p8 : lw_okq (⟨"BracketSweep", "workOut", "()V"⟩, 11) := ⟨⟨by decide +kernel, by decide +kernel⟩, List.mem_of_getElem? (i := 8) (by decide +kernel), List.mem_of_getElem? (i := 145) (by decide +kernel), List.mem_of_getElem? (i := 146) (by decide +kernel)⟩
theorem lw_p9 : lw_okq (⟨"BracketSweep", "tallyStates", "()V"⟩, 11) := ⟨⟨by decide +kernel, by decide +kernel⟩, List.mem_of_getElem? (i := 8) (by decide +kernel), List.mem_of_getElem? (i := 156) (by decide +kernel), List.mem_of_getElem? (i := 157) (by decide +kernel)⟩
theorem lw_p10 : lw_okq (⟨"BracketSweep$Ways", "join", "(II)I"⟩, 2) := ⟨⟨by decide +kernel, by decide +kernel⟩, List.mem_of_getElem? (i := 16) (by decide +kernel), List.mem_of_getElem? (i := 172) (by decide +kernel), List.mem_of_getElem? (i := 173) (by decide +kernel)⟩
theorem lw_p11 : lw_okq (⟨"BracketSweep$Ways", "part", "(II)V"⟩, 2) := ⟨⟨by decide +kernel, by decide +kernel⟩, List.mem_of_getElem? (i := 16) (by decide +kernel), List.mem_of_getElem? (i := 180) (by decide +kernel), List.mem_of_getElem? (i := 181) (by decide +kernel)⟩
theorem lw_p12 : lw_okq (⟨"BracketSweep", "sumTally", "()V"⟩, 11) := ⟨⟨by decide +kernel, by decide +kernel⟩, List.mem_of_getElem? (i := 8) (by decide +kernel), List.mem_of_getElem? (i := 184) (by decide +kernel), List.mem_of_getElem? (i := 185) (by decide +kernel)⟩
theorem lw_p13 : lw_okq (⟨"BracketSweep", "sumOfSigns", "()I"⟩, 11) := ⟨⟨by decide +kernel, by decide +kernel⟩, List.mem_of_getElem? (i := 8) (by decide +kernel), List.mem_of_getElem? (i := 215) (by decide +kernel), List.mem_of_getElem? (i := 216) (by decide +kernel)⟩
theorem lw_p14 : lw_okq (⟨"BracketSweep", "lookAtAll", "(I)I"⟩, 11) := ⟨⟨by decide +kernel, by decide +kernel⟩, List.mem_of_getElem? (i := 8) (by decide +kernel), List.mem_of_getElem? (i := 237) (by decide +kernel), List.mem_of_getElem? (i := 238) (by decide +kernel)⟩
theorem lw_p15 : lw_okq (⟨"BracketSweep", "unite", "(II)V"⟩, 11) := ⟨⟨by decide +kernel, by decide +kernel⟩, List.mem_of_getElem? (i := 8) (by decide +kernel), List.mem_of_getElem? (i := 251) (by decide +kernel), List.mem_of_getElem? (i := 252) (by decide +kernel)⟩
def lw_privs_1 : List (MethodName × Nat) := [(⟨"BracketSweep", "orderAsGiven", "()V"⟩, 11), (⟨"BracketSweep", "countStanding", "()V"⟩, 11), (⟨"BracketSweep", "isCrossing", "(I)Z"⟩, 11), (⟨"BracketSweep", "isCode", "()Z"⟩, 11), (⟨"BracketSweep", "goOverNone", "()V"⟩, 11), (⟨"BracketSweep", "mostJoined", "()I"⟩, 11), (⟨"BracketSweep", "placesJoined", "(I)I"⟩, 11), (⟨"BracketSweep", "goOver", "(I)I"⟩, 11), (⟨"BracketSweep", "workOut", "()V"⟩, 11), (⟨"BracketSweep", "tallyStates", "()V"⟩, 11), (⟨"BracketSweep$Ways", "join", "(II)I"⟩, 2), (⟨"BracketSweep$Ways", "part", "(II)V"⟩, 2), (⟨"BracketSweep", "sumTally", "()V"⟩, 11), (⟨"BracketSweep", "sumOfSigns", "()I"⟩, 11), (⟨"BracketSweep", "lookAtAll", "(I)I"⟩, 11), (⟨"BracketSweep", "unite", "(II)V"⟩, 11)]
theorem lw_r1 : ∀ q ∈ lw_privs_1, lw_okq q := List.forall_mem_cons.mpr ⟨lw_p0, List.forall_mem_cons.mpr ⟨lw_p1, List.forall_mem_cons.mpr ⟨lw_p2, List.forall_mem_cons.mpr ⟨lw_p3, List.forall_mem_cons.mpr ⟨lw_p4, List.forall_mem_cons.mpr ⟨lw_p5, List.forall_mem_cons.mpr ⟨lw_p6, List.forall_mem_cons.mpr ⟨lw_p7, List.forall_mem_cons.mpr ⟨lw_p8, List.forall_mem_cons.mpr ⟨lw_p9, List.forall_mem_cons.mpr ⟨lw_p10, List.forall_mem_cons.mpr ⟨lw_p11, List.forall_mem_cons.mpr ⟨lw_p12, List.forall_mem_cons.mpr ⟨lw_p13, List.forall_mem_cons.mpr ⟨lw_p14, List.forall_mem_cons.mpr ⟨lw_p15, fun _ h => absurd h List.not_mem_nil⟩⟩⟩⟩⟩⟩⟩⟩⟩⟩⟩⟩⟩⟩⟩⟩
theorem lw_p16 : lw_okq (⟨"BracketSweep", "carry", "(II)V"⟩, 11) := ⟨⟨by decide +kernel, by decide +kernel⟩, List.mem_of_getElem? (i := 8) (by decide +kernel), List.mem_of_getElem? (i := 255) (by decide +kernel), List.mem_of_getElem? (i := 256) (by decide +kernel)⟩
theorem lw_p17 : lw_okq (⟨"BracketSweep", "swapWithNext", "(I)V"⟩, 11) := ⟨⟨by decide +kernel, by decide +kernel⟩, List.mem_of_getElem? (i := 8) (by decide +kernel), List.mem_of_getElem? (i := 259) (by decide +kernel), List.mem_of_getElem? (i := 260) (by decide +kernel)⟩
theorem lw_p18 : lw_okq (⟨"BracketSweepModel", "standing", "(I)I"⟩, 13) := ⟨⟨by decide +kernel, by decide +kernel⟩, List.mem_of_getElem? (i := 271) (by decide +kernel), List.mem_of_getElem? (i := 332) (by decide +kernel), List.mem_of_getElem? (i := 333) (by decide +kernel)⟩
theorem lw_p19 : lw_okq (⟨"BracketSweepModel", "findMates", "()V"⟩, 13) := ⟨⟨by decide +kernel, by decide +kernel⟩, List.mem_of_getElem? (i := 271) (by decide +kernel), List.mem_of_getElem? (i := 341) (by decide +kernel), List.mem_of_getElem? (i := 342) (by decide +kernel)⟩
theorem lw_p20 : lw_okq (⟨"BracketSweepModel", "ways", "(I)I"⟩, 13) := ⟨⟨by decide +kernel, by decide +kernel⟩, List.mem_of_getElem? (i := 271) (by decide +kernel), List.mem_of_getElem? (i := 345) (by decide +kernel), List.mem_of_getElem? (i := 346) (by decide +kernel)⟩
theorem lw_p21 : lw_okq (⟨"BracketSweepModel", "know", "()V"⟩, 13) := ⟨⟨by decide +kernel, by decide +kernel⟩, List.mem_of_getElem? (i := 271) (by decide +kernel), List.mem_of_getElem? (i := 356) (by decide +kernel), List.mem_of_getElem? (i := 357) (by decide +kernel)⟩
theorem lw_p22 : lw_okq (⟨"BracketSweepModel", "expand", "(III)V"⟩, 13) := ⟨⟨by decide +kernel, by decide +kernel⟩, List.mem_of_getElem? (i := 271) (by decide +kernel), List.mem_of_getElem? (i := 363) (by decide +kernel), List.mem_of_getElem? (i := 364) (by decide +kernel)⟩
theorem lw_p23 : lw_okq (⟨"BracketSweepModel", "signs", "()I"⟩, 13) := ⟨⟨by decide +kernel, by decide +kernel⟩, List.mem_of_getElem? (i := 271) (by decide +kernel), List.mem_of_getElem? (i := 371) (by decide +kernel), List.mem_of_getElem? (i := 372) (by decide +kernel)⟩
theorem lw_p24 : lw_okq (⟨"BracketSweepModel", "open", "()I"⟩, 13) := ⟨⟨by decide +kernel, by decide +kernel⟩, List.mem_of_getElem? (i := 271) (by decide +kernel), List.mem_of_getElem? (i := 384) (by decide +kernel), List.mem_of_getElem? (i := 385) (by decide +kernel)⟩
theorem lw_p25 : lw_okq (⟨"BracketSweepModel", "touching", "(I)I"⟩, 13) := ⟨⟨by decide +kernel, by decide +kernel⟩, List.mem_of_getElem? (i := 271) (by decide +kernel), List.mem_of_getElem? (i := 388) (by decide +kernel), List.mem_of_getElem? (i := 389) (by decide +kernel)⟩
theorem lw_p26 : lw_okq (⟨"BracketSweepModel", "stands", "(I)Z"⟩, 13) := ⟨⟨by decide +kernel, by decide +kernel⟩, List.mem_of_getElem? (i := 271) (by decide +kernel), List.mem_of_getElem? (i := 392) (by decide +kernel), List.mem_of_getElem? (i := 393) (by decide +kernel)⟩
theorem lw_p27 : lw_okq (⟨"BracketSweepModel", "closing", "(IZ)I"⟩, 13) := ⟨⟨by decide +kernel, by decide +kernel⟩, List.mem_of_getElem? (i := 271) (by decide +kernel), List.mem_of_getElem? (i := 404) (by decide +kernel), List.mem_of_getElem? (i := 405) (by decide +kernel)⟩
theorem lw_p28 : lw_okq (⟨"BracketSweepModel", "join", "(II)I"⟩, 13) := ⟨⟨by decide +kernel, by decide +kernel⟩, List.mem_of_getElem? (i := 271) (by decide +kernel), List.mem_of_getElem? (i := 408) (by decide +kernel), List.mem_of_getElem? (i := 409) (by decide +kernel)⟩
theorem lw_p29 : lw_okq (⟨"BracketSweepModel", "become", "(II)V"⟩, 13) := ⟨⟨by decide +kernel, by decide +kernel⟩, List.mem_of_getElem? (i := 271) (by decide +kernel), List.mem_of_getElem? (i := 412) (by decide +kernel), List.mem_of_getElem? (i := 413) (by decide +kernel)⟩
theorem lw_p30 : lw_okq (⟨"BracketSweepModel", "exchange", "(I)V"⟩, 13) := ⟨⟨by decide +kernel, by decide +kernel⟩, List.mem_of_getElem? (i := 271) (by decide +kernel), List.mem_of_getElem? (i := 424) (by decide +kernel), List.mem_of_getElem? (i := 425) (by decide +kernel)⟩
def lw_privs_2 : List (MethodName × Nat) := [(⟨"BracketSweep", "carry", "(II)V"⟩, 11), (⟨"BracketSweep", "swapWithNext", "(I)V"⟩, 11), (⟨"BracketSweepModel", "standing", "(I)I"⟩, 13), (⟨"BracketSweepModel", "findMates", "()V"⟩, 13), (⟨"BracketSweepModel", "ways", "(I)I"⟩, 13), (⟨"BracketSweepModel", "know", "()V"⟩, 13), (⟨"BracketSweepModel", "expand", "(III)V"⟩, 13), (⟨"BracketSweepModel", "signs", "()I"⟩, 13), (⟨"BracketSweepModel", "open", "()I"⟩, 13), (⟨"BracketSweepModel", "touching", "(I)I"⟩, 13), (⟨"BracketSweepModel", "stands", "(I)Z"⟩, 13), (⟨"BracketSweepModel", "closing", "(IZ)I"⟩, 13), (⟨"BracketSweepModel", "join", "(II)I"⟩, 13), (⟨"BracketSweepModel", "become", "(II)V"⟩, 13), (⟨"BracketSweepModel", "exchange", "(I)V"⟩, 13)]
theorem lw_r2 : ∀ q ∈ lw_privs_2, lw_okq q := List.forall_mem_cons.mpr ⟨lw_p16, List.forall_mem_cons.mpr ⟨lw_p17, List.forall_mem_cons.mpr ⟨lw_p18, List.forall_mem_cons.mpr ⟨lw_p19, List.forall_mem_cons.mpr ⟨lw_p20, List.forall_mem_cons.mpr ⟨lw_p21, List.forall_mem_cons.mpr ⟨lw_p22, List.forall_mem_cons.mpr ⟨lw_p23, List.forall_mem_cons.mpr ⟨lw_p24, List.forall_mem_cons.mpr ⟨lw_p25, List.forall_mem_cons.mpr ⟨lw_p26, List.forall_mem_cons.mpr ⟨lw_p27, List.forall_mem_cons.mpr ⟨lw_p28, List.forall_mem_cons.mpr ⟨lw_p29, List.forall_mem_cons.mpr ⟨lw_p30, fun _ h => absurd h List.not_mem_nil⟩⟩⟩⟩⟩⟩⟩⟩⟩⟩⟩⟩⟩⟩⟩
def lw_privs : List (MethodName × Nat) := lw_privs_1 ++ (lw_privs_2)
def lw_tbl : List Cond := k2_sels lw_privs ++ tables_1
theorem lw_privs_ok : ∀ q ∈ lw_privs, lw_okq q := by
  show ∀ q ∈ lw_privs_1 ++ (lw_privs_2), lw_okq q
  exact List.forall_mem_append.mpr ⟨lw_r1, lw_r2⟩
/-- the words that may go from a method to those that it calls -/
def lw_g : List Cond := lw_tbl.filter goodWord
theorem lg_in {w : Cond} (h : w ∈ lw_tbl) (hg : goodWord w = true) : w ∈ lw_g := List.mem_filter.mpr ⟨h, hg⟩
def R_B : String := "BracketSweep"
def F_B : u_T := fun k => match k with
  | 0 => ("BracketSweep", "labels", "[I", true)
  | 1 => ("BracketSweep", "signs", "[I", true)
  | 2 => ("BracketSweep", "crossingCount", "I", false)
  | 3 => ("BracketSweep", "circleCount", "I", false)
  | 4 => ("BracketSweep", "order", "[I", true)
  | 5 => ("BracketSweep", "standing", "[I", true)
  | 6 => ("BracketSweep", "goneOver", "[Z", true)
  | 7 => ("BracketSweep", "tally", "[I", true)
  | 8 => ("BracketSweep", "ways", "LBracketSweep$Ways;", true)
  | 9 => ("BracketSweep", "sum", "LBracketSweep$Polynomial;", true)
  | _ => ("BracketSweep", "workedOut", "Z", false)
def t_B : Nat → FieldType := fun k => match k with
  | 0 => .array .int
  | 1 => .array .int
  | 2 => .int
  | 3 => .int
  | 4 => .array .int
  | 5 => .array .int
  | 6 => .array .boolean
  | 7 => .array .int
  | 8 => .object "BracketSweep$Ways"
  | 9 => .object "BracketSweep$Polynomial"
  | _ => .boolean
theorem n_B : ∀ a, a < 11 → ∀ b, b < 11 → a ≠ b → (F_B a).2.1 ≠ (F_B b).2.1 := by decide +kernel
theorem t_B_ok : ∀ k, k < 11 → parseFieldDescriptor (F_B k).2.2.1 = some (t_B k) := by decide +kernel
theorem iC_B : ∀ w ∈ u_ws R_B F_B 11, w ∈ lw_g := fun w h => lg_in ((by decide +kernel : ∀ w ∈ u_ws R_B F_B 11, w ∈ lw_tbl) w h) (List.all_eq_true.mp (by decide +kernel : (u_ws R_B F_B 11).all goodWord = true) w h)
def R_W : String := "BracketSweep$Ways"
def F_W : u_T := fun k => match k with
  | 0 => ("BracketSweep$Ways", "otherEnd", "[I", true)
  | _ => ("BracketSweep$Ways", "firstPlace", "[I", true)
def t_W : Nat → FieldType := fun k => match k with
  | 0 => .array .int
  | _ => .array .int
theorem n_W : ∀ a, a < 2 → ∀ b, b < 2 → a ≠ b → (F_W a).2.1 ≠ (F_W b).2.1 := by decide +kernel
theorem t_W_ok : ∀ k, k < 2 → parseFieldDescriptor (F_W k).2.2.1 = some (t_W k) := by decide +kernel
theorem iC_W : ∀ w ∈ u_ws R_W F_W 2, w ∈ lw_g := fun w h => lg_in ((by decide +kernel : ∀ w ∈ u_ws R_W F_W 2, w ∈ lw_tbl) w h) (List.all_eq_true.mp (by decide +kernel : (u_ws R_W F_W 2).all goodWord = true) w h)
def R_P : String := "BracketSweep$Polynomial"
def F_P : u_T := fun k => match k with
  | 0 => ("BracketSweep$Polynomial", "row", "[J", false)
  | _ => ("BracketSweep$Polynomial", "spare", "[J", false)
def t_P : Nat → FieldType := fun k => match k with
  | 0 => .array .long
  | _ => .array .long
theorem n_P : ∀ a, a < 2 → ∀ b, b < 2 → a ≠ b → (F_P a).2.1 ≠ (F_P b).2.1 := by decide +kernel
theorem t_P_ok : ∀ k, k < 2 → parseFieldDescriptor (F_P k).2.2.1 = some (t_P k) := by decide +kernel
theorem iC_P : ∀ w ∈ u_ws R_P F_P 2, w ∈ lw_g := fun w h => lg_in ((by decide +kernel : ∀ w ∈ u_ws R_P F_P 2, w ∈ lw_tbl) w h) (List.all_eq_true.mp (by decide +kernel : (u_ws R_P F_P 2).all goodWord = true) w h)
def R_M : String := "BracketSweepModel"
def F_M : u_T := fun k => match k with
  | 0 => ("BracketSweepModel", "thrown", "I", false)
  | 1 => ("BracketSweepModel", "n", "I", false)
  | 2 => ("BracketSweepModel", "circles", "I", false)
  | 3 => ("BracketSweepModel", "sign", "[I", true)
  | 4 => ("BracketSweepModel", "label", "[I", true)
  | 5 => ("BracketSweepModel", "mate", "[I", true)
  | 6 => ("BracketSweepModel", "met", "[Z", true)
  | 7 => ("BracketSweepModel", "over", "[Z", true)
  | 8 => ("BracketSweepModel", "known", "Z", false)
  | 9 => ("BracketSweepModel", "row", "[J", true)
  | 10 => ("BracketSweepModel", "tally", "[I", true)
  | 11 => ("BracketSweepModel", "binomial", "[J", true)
  | _ => ("BracketSweepModel", "four", "[I", true)
def t_M : Nat → FieldType := fun k => match k with
  | 0 => .int
  | 1 => .int
  | 2 => .int
  | 3 => .array .int
  | 4 => .array .int
  | 5 => .array .int
  | 6 => .array .boolean
  | 7 => .array .boolean
  | 8 => .boolean
  | 9 => .array .long
  | 10 => .array .int
  | 11 => .array .long
  | _ => .array .int
theorem n_M : ∀ a, a < 13 → ∀ b, b < 13 → a ≠ b → (F_M a).2.1 ≠ (F_M b).2.1 := by decide +kernel
theorem t_M_ok : ∀ k, k < 13 → parseFieldDescriptor (F_M k).2.2.1 = some (t_M k) := by decide +kernel
theorem iC_M : ∀ w ∈ u_ws R_M F_M 13, w ∈ lw_g := fun w h => lg_in ((by decide +kernel : ∀ w ∈ u_ws R_M F_M 13, w ∈ lw_tbl) w h) (List.all_eq_true.mp (by decide +kernel : (u_ws R_M F_M 13).all goodWord = true) w h)
abbrev classes : List vw_C := [(R_B, F_B, 11), (R_W, F_W, 2), (R_P, F_P, 2), (R_M, F_M, 13)]
abbrev b_B_init : ByteArray := prog_1_method_1_code
def y_B_init : MethodName := ⟨R_B, "<init>", "()V"⟩
abbrev b_W_init : ByteArray := prog_3_method_1_code
def y_W_init : MethodName := ⟨R_W, "<init>", "()V"⟩
abbrev b_P_init : ByteArray := prog_2_method_1_code
def y_P_init : MethodName := ⟨R_P, "<init>", "()V"⟩
abbrev b_B_orderAsGiven : ByteArray := prog_1_method_18_code
def y_B_orderAsGiven : MethodName := ⟨R_B, "orderAsGiven", "()V"⟩
abbrev b_B_crossing : ByteArray := prog_1_method_2_code
def y_B_crossing : MethodName := ⟨R_B, "crossing", "(IIIII)I"⟩
abbrev b_B_isLabel : ByteArray := prog_1_method_15_code
def y_B_isLabel : MethodName := ⟨R_B, "isLabel", "(I)Z"⟩
abbrev b_B_circles : ByteArray := prog_1_method_3_code
def y_B_circles : MethodName := ⟨R_B, "circles", "(I)I"⟩
abbrev b_B_clear : ByteArray := prog_1_method_4_code
def y_B_clear : MethodName := ⟨R_B, "clear", "()I"⟩
abbrev b_B_fault : ByteArray := prog_1_method_5_code
def y_B_fault : MethodName := ⟨R_B, "fault", "()I"⟩
abbrev b_B_countStanding : ByteArray := prog_1_method_19_code
def y_B_countStanding : MethodName := ⟨R_B, "countStanding", "()V"⟩
abbrev b_fillI : ByteArray := prog_7_method_103_code
def y_fillI : MethodName := ⟨"java/util/Arrays", "fill", "([II)V"⟩
abbrev b_B_sweep : ByteArray := prog_1_method_6_code
def y_B_sweep : MethodName := ⟨R_B, "sweep", "(I)I"⟩
abbrev b_B_isCrossing : ByteArray := prog_1_method_16_code
def y_B_isCrossing : MethodName := ⟨R_B, "isCrossing", "(I)Z"⟩
abbrev b_B_isCode : ByteArray := prog_1_method_17_code
def y_B_isCode : MethodName := ⟨R_B, "isCode", "()Z"⟩
abbrev b_B_goOverNone : ByteArray := prog_1_method_22_code
def y_B_goOverNone : MethodName := ⟨R_B, "goOverNone", "()V"⟩
abbrev b_B_mostJoined : ByteArray := prog_1_method_23_code
def y_B_mostJoined : MethodName := ⟨R_B, "mostJoined", "()I"⟩
abbrev b_B_placesJoined : ByteArray := prog_1_method_24_code
def y_B_placesJoined : MethodName := ⟨R_B, "placesJoined", "(I)I"⟩
abbrev b_B_goOver : ByteArray := prog_1_method_25_code
def y_B_goOver : MethodName := ⟨R_B, "goOver", "(I)I"⟩
abbrev b_B_bracket : ByteArray := prog_1_method_7_code
def y_B_bracket : MethodName := ⟨R_B, "bracket", "(I)J"⟩
abbrev b_B_workOut : ByteArray := prog_1_method_30_code
def y_B_workOut : MethodName := ⟨R_B, "workOut", "()V"⟩
abbrev b_P_setZero : ByteArray := prog_2_method_2_code
def y_P_setZero : MethodName := ⟨R_P, "setZero", "()V"⟩
abbrev b_fillJ : ByteArray := prog_7_method_101_code
def y_fillJ : MethodName := ⟨"java/util/Arrays", "fill", "([JJ)V"⟩
abbrev b_B_tallyStates : ByteArray := prog_1_method_31_code
def y_B_tallyStates : MethodName := ⟨R_B, "tallyStates", "()V"⟩
abbrev b_W_followLabels : ByteArray := prog_3_method_2_code
def y_W_followLabels : MethodName := ⟨R_W, "followLabels", "([II)V"⟩
abbrev b_B_tallyFrom : ByteArray := prog_1_method_32_code
def y_B_tallyFrom : MethodName := ⟨R_B, "tallyFrom", "(LBracketSweep;III)V"⟩
abbrev b_W_smooth : ByteArray := prog_3_method_3_code
def y_W_smooth : MethodName := ⟨R_W, "smooth", "(IZ)I"⟩
abbrev b_W_join : ByteArray := prog_3_method_5_code
def y_W_join : MethodName := ⟨R_W, "join", "(II)I"⟩
abbrev b_W_undo : ByteArray := prog_3_method_4_code
def y_W_undo : MethodName := ⟨R_W, "undo", "(IZ)V"⟩
abbrev b_W_part : ByteArray := prog_3_method_6_code
def y_W_part : MethodName := ⟨R_W, "part", "(II)V"⟩
abbrev b_B_sumTally : ByteArray := prog_1_method_33_code
def y_B_sumTally : MethodName := ⟨R_B, "sumTally", "()V"⟩
abbrev b_P_isZero : ByteArray := prog_2_method_6_code
def y_P_isZero : MethodName := ⟨R_P, "isZero", "()Z"⟩
abbrev b_P_least : ByteArray := prog_2_method_7_code
def y_P_least : MethodName := ⟨R_P, "least", "()I"⟩
abbrev b_P_timesD : ByteArray := prog_2_method_5_code
def y_P_timesD : MethodName := ⟨R_P, "timesD", "()V"⟩
abbrev b_P_at : ByteArray := prog_2_method_3_code
def y_P_at : MethodName := ⟨R_P, "at", "(J)J"⟩
abbrev b_P_add : ByteArray := prog_2_method_4_code
def y_P_add : MethodName := ⟨R_P, "add", "(IJ)V"⟩
abbrev b_B_jones : ByteArray := prog_1_method_8_code
def y_B_jones : MethodName := ⟨R_B, "jones", "(I)J"⟩
abbrev b_B_sumOfSigns : ByteArray := prog_1_method_20_code
def y_B_sumOfSigns : MethodName := ⟨R_B, "sumOfSigns", "()I"⟩
abbrev b_B_span : ByteArray := prog_1_method_9_code
def y_B_span : MethodName := ⟨R_B, "span", "(ZZ)I"⟩
abbrev b_P_greatest : ByteArray := prog_2_method_8_code
def y_P_greatest : MethodName := ⟨R_P, "greatest", "()I"⟩
abbrev b_B_state : ByteArray := prog_1_method_10_code
def y_B_state : MethodName := ⟨R_B, "state", "(I)I"⟩
abbrev b_B_look : ByteArray := prog_1_method_11_code
def y_B_look : MethodName := ⟨R_B, "look", "(II)I"⟩
abbrev b_B_lookAtAll : ByteArray := prog_1_method_21_code
def y_B_lookAtAll : MethodName := ⟨R_B, "lookAtAll", "(I)I"⟩
abbrev b_B_resolve : ByteArray := prog_1_method_12_code
def y_B_resolve : MethodName := ⟨R_B, "resolve", "(IZ)Z"⟩
abbrev b_B_renamed : ByteArray := prog_1_method_26_code
def y_B_renamed : MethodName := ⟨R_B, "renamed", "(III)I"⟩
abbrev b_B_unite : ByteArray := prog_1_method_27_code
def y_B_unite : MethodName := ⟨R_B, "unite", "(II)V"⟩
abbrev b_B_carry : ByteArray := prog_1_method_28_code
def y_B_carry : MethodName := ⟨R_B, "carry", "(II)V"⟩
abbrev b_B_swapWithNext : ByteArray := prog_1_method_29_code
def y_B_swapWithNext : MethodName := ⟨R_B, "swapWithNext", "(I)V"⟩
abbrev b_B_change : ByteArray := prog_1_method_13_code
def y_B_change : MethodName := ⟨R_B, "change", "(I)Z"⟩
abbrev b_B_move : ByteArray := prog_1_method_14_code
def y_B_move : MethodName := ⟨R_B, "move", "(II)Z"⟩
abbrev b_M_init : ByteArray := prog_5_method_1_code
def y_M_init : MethodName := ⟨R_M, "<init>", "()V"⟩
abbrev b_M_crossing : ByteArray := prog_5_method_3_code
def y_M_crossing : MethodName := ⟨R_M, "crossing", "(IIIII)I"⟩
abbrev b_M_circles : ByteArray := prog_5_method_4_code
def y_M_circles : MethodName := ⟨R_M, "circles", "(I)I"⟩
abbrev b_M_clear : ByteArray := prog_5_method_5_code
def y_M_clear : MethodName := ⟨R_M, "clear", "()I"⟩
abbrev b_M_fault : ByteArray := prog_5_method_7_code
def y_M_fault : MethodName := ⟨R_M, "fault", "()I"⟩
abbrev b_M_standing : ByteArray := prog_5_method_6_code
def y_M_standing : MethodName := ⟨R_M, "standing", "(I)I"⟩
abbrev b_M_state : ByteArray := prog_5_method_11_code
def y_M_state : MethodName := ⟨R_M, "state", "(I)I"⟩
abbrev b_M_findMates : ByteArray := prog_5_method_8_code
def y_M_findMates : MethodName := ⟨R_M, "findMates", "()V"⟩
abbrev b_M_ways : ByteArray := prog_5_method_10_code
def y_M_ways : MethodName := ⟨R_M, "ways", "(I)I"⟩
abbrev b_M_joined : ByteArray := prog_5_method_9_code
def y_M_joined : MethodName := ⟨R_M, "joined", "(IZ)I"⟩
abbrev b_M_bracket : ByteArray := prog_5_method_16_code
def y_M_bracket : MethodName := ⟨R_M, "bracket", "(I)J"⟩
abbrev b_M_know : ByteArray := prog_5_method_14_code
def y_M_know : MethodName := ⟨R_M, "know", "()V"⟩
abbrev b_M_bits : ByteArray := prog_5_method_12_code
def y_M_bits : MethodName := ⟨R_M, "bits", "(I)I"⟩
abbrev b_M_expand : ByteArray := prog_5_method_13_code
def y_M_expand : MethodName := ⟨R_M, "expand", "(III)V"⟩
abbrev b_M_jones : ByteArray := prog_5_method_17_code
def y_M_jones : MethodName := ⟨R_M, "jones", "(I)J"⟩
abbrev b_M_signs : ByteArray := prog_5_method_15_code
def y_M_signs : MethodName := ⟨R_M, "signs", "()I"⟩
abbrev b_M_span : ByteArray := prog_5_method_18_code
def y_M_span : MethodName := ⟨R_M, "span", "(ZZ)I"⟩
abbrev b_M_sweep : ByteArray := prog_5_method_22_code
def y_M_sweep : MethodName := ⟨R_M, "sweep", "(I)I"⟩
abbrev b_M_open : ByteArray := prog_5_method_21_code
def y_M_open : MethodName := ⟨R_M, "open", "()I"⟩
abbrev b_M_touching : ByteArray := prog_5_method_20_code
def y_M_touching : MethodName := ⟨R_M, "touching", "(I)I"⟩
abbrev b_M_stands : ByteArray := prog_5_method_19_code
def y_M_stands : MethodName := ⟨R_M, "stands", "(I)Z"⟩
abbrev b_M_look : ByteArray := prog_5_method_23_code
def y_M_look : MethodName := ⟨R_M, "look", "(II)I"⟩
abbrev b_M_resolve : ByteArray := prog_5_method_27_code
def y_M_resolve : MethodName := ⟨R_M, "resolve", "(IZ)Z"⟩
abbrev b_M_closing : ByteArray := prog_5_method_26_code
def y_M_closing : MethodName := ⟨R_M, "closing", "(IZ)I"⟩
abbrev b_M_join : ByteArray := prog_5_method_25_code
def y_M_join : MethodName := ⟨R_M, "join", "(II)I"⟩
abbrev b_M_become : ByteArray := prog_5_method_24_code
def y_M_become : MethodName := ⟨R_M, "become", "(II)V"⟩
abbrev b_M_change : ByteArray := prog_5_method_28_code
def y_M_change : MethodName := ⟨R_M, "change", "(I)Z"⟩
abbrev b_M_move : ByteArray := prog_5_method_30_code
def y_M_move : MethodName := ⟨R_M, "move", "(II)Z"⟩
abbrev b_M_exchange : ByteArray := prog_5_method_29_code
def y_M_exchange : MethodName := ⟨R_M, "exchange", "(I)V"⟩
def wB (a : Nat → Nat) (k : Nat → ClassId) (lab : Nat → Int32) (sg : Nat → Int32) (cc : Int32) (ci : Int32) (od : Nat → Int32) (sd : Nat → Int32) (go : Nat → Int32) (ta : Nat → Int32) (we : Int32) (oe : Nat → Int32) (fp : Nat → Int32) (ro : Nat → Int64) (sp : Nat → Int64) (qr : Nat) (qs : Nat) : va_W := [((a 0), .inr (0, [.ref (a 1), .ref (a 2), .int cc, .int ci, .ref (a 3), .ref (a 4), .ref (a 5), .ref (a 6), .ref (a 7), .ref (a 10), .int we])), ((a 1), .inl (k 1, 40, .inl lab)), ((a 2), .inl (k 2, 10, .inl sg)), ((a 3), .inl (k 3, 10, .inl od)), ((a 4), .inl (k 4, 100, .inl sd)), ((a 5), .inl (k 5, 10, .inl go)), ((a 6), .inl (k 6, 330, .inl ta)), ((a 7), .inr (1, [.ref (a 8), .ref (a 9)])), ((a 8), .inl (k 8, 40, .inl oe)), ((a 9), .inl (k 9, 100, .inl fp)), ((a 10), .inr (2, [.ref qr, .ref qs])), (qr, .inl (k 11, 133, .inr (.inl ro))), (qs, .inl (k 11, 133, .inr (.inl sp)))]
def wW (a : Nat → Nat) (k : Nat → ClassId) (oe : Nat → Int32) (fp : Nat → Int32) : va_W := [((a 7), .inr (1, [.ref (a 8), .ref (a 9)])), ((a 8), .inl (k 8, 40, .inl oe)), ((a 9), .inl (k 9, 100, .inl fp))]
def wL (a : Nat → Nat) (k : Nat → ClassId) (oe : Nat → Int32) (fp : Nat → Int32) (lab : Nat → Int32) : va_W := [((a 7), .inr (1, [.ref (a 8), .ref (a 9)])), ((a 8), .inl (k 8, 40, .inl oe)), ((a 9), .inl (k 9, 100, .inl fp)), ((a 1), .inl (k 1, 40, .inl lab))]
def wP (a : Nat → Nat) (k : Nat → ClassId) (ro : Nat → Int64) (sp : Nat → Int64) (qr : Nat) (qs : Nat) : va_W := [((a 10), .inr (2, [.ref qr, .ref qs])), (qr, .inl (k 11, 133, .inr (.inl ro))), (qs, .inl (k 11, 133, .inr (.inl sp)))]
def wM (a : Nat → Nat) (k : Nat → ClassId) (mh : Int32) (mn : Int32) (mc : Int32) (ms : Nat → Int32) (ml : Nat → Int32) (mm : Nat → Int32) (mt : Nat → Int32) (mo : Nat → Int32) (mk : Int32) (mr : Nat → Int64) (my : Nat → Int32) (mb : Nat → Int64) (mf : Nat → Int32) : va_W := [((a 20), .inr (3, [.int mh, .int mn, .int mc, .ref (a 21), .ref (a 22), .ref (a 23), .ref (a 24), .ref (a 25), .int mk, .ref (a 26), .ref (a 27), .ref (a 28), .ref (a 29)])), ((a 21), .inl (k 21, 10, .inl ms)), ((a 22), .inl (k 22, 40, .inl ml)), ((a 23), .inl (k 23, 40, .inl mm)), ((a 24), .inl (k 24, 40, .inl mt)), ((a 25), .inl (k 25, 10, .inl mo)), ((a 26), .inl (k 26, 260, .inr (.inl mr))), ((a 27), .inl (k 27, 672, .inl my)), ((a 28), .inl (k 28, 40, .inr (.inl mb))), ((a 29), .inl (k 29, 4, .inl mf))]
def wN (_a : Nat → Nat) (_k : Nat → ClassId) : va_W := []
end
section
/-! BASE: words all in one list (lw_g), contexts, calls that keep the world's shape. -/
theorem lw_good {w : Cond} (h : w ∈ lw_g) : w ∈ lw_g ∧ ((w.onTables && w.keeps) = true ∨ ∃ ty, w = .arrayClass ty) := ⟨h, good_of_word (List.mem_filter.mp h).2⟩
theorem gd_V {own C : String} {idx n : Nat} {y : MethodName} {b : ByteArray} {rt : Option FieldType} (h1 : Cond.methodLink own idx y ∈ lw_g) (h2 : Cond.instanceMethod y ∈ lw_g) (h3 : Cond.selects C y y ∈ lw_g) (h4 : Cond.initialized C ∈ lw_g) (h5 : Cond.code y b n rt ∈ lw_g) : GoodIn lw_g (wsV own idx C y (Cond.code y b n rt :: lw_g)) := by
  intro w hw
  simp only [wsV, List.mem_append, List.mem_cons, List.not_mem_nil, or_false] at hw
  rcases hw with (rfl | rfl | rfl | rfl) | (rfl | hw)
  · exact lw_good h1
  · exact lw_good h2
  · exact lw_good h3
  · exact lw_good h4
  · exact lw_good h5
  · exact lw_good hw
theorem gd_S {own : String} {idx n : Nat} {y : MethodName} {b : ByteArray} {rt : Option FieldType} (h1 : Cond.methodLink own idx y ∈ lw_g) (h2 : Cond.static y ∈ lw_g) (h4 : Cond.initialized y.cls ∈ lw_g) (h5 : Cond.code y b n rt ∈ lw_g) : GoodIn lw_g (va_wsS own idx y (Cond.code y b n rt :: lw_g)) := by
  intro w hw
  simp only [va_wsS, List.mem_append, List.mem_cons, List.not_mem_nil, or_false] at hw
  rcases hw with (rfl | rfl | rfl) | (rfl | hw)
  · exact lw_good h1
  · exact lw_good h2
  · exact lw_good h4
  · exact lw_good h5
  · exact lw_good hw
theorem gd_T {n : Nat} {y : MethodName} {b : ByteArray} {rt : Option FieldType} (h5 : Cond.code y b n rt ∈ lw_g) : GoodIn lw_g (Cond.code y b n rt :: lw_g) := by
  intro w hw
  rcases List.mem_cons.mp hw with rfl | hw
  · exact lw_good h5
  · exact lw_good hw
/-- an index within an array of n places, as a test -/
def inb (i : Int32) (n : Nat) : Bool := decide (0 ≤ i.toInt) && decide (i.toInt < (n : Int))
theorem inb_iff {i : Int32} {n : Nat} : inb i n = true ↔ 0 ≤ i.toInt ∧ i.toInt < (n : Int) := by simp [inb]
theorem inb_in {i : Int32} {n : Nat} (h : inb i n = true) : vp_in i n := vp_in_iff.mpr (inb_iff.mp h)
theorem inb_of {i : Int32} {n : Nat} (h : vp_in i n) : inb i n = true := inb_iff.mpr (vp_in_iff.mp h)
theorem inb_nI {j n : Nat} (h : j < n) (hn : n < 2 ^ 31) : inb (nI j) n = true := inb_of (vp_in_nI h hn)
def isb (v : Int32) : Bool := decide (v = 0) || decide (v = 1)
theorem isb_nar {v : Int32} (h : isb v = true) : narrow .boolean (.int v) = .int v := by
  simp only [isb, Bool.or_eq_true, decide_eq_true_eq] at h
  rcases h with rfl | rfl <;> rfl
/-- how far a loop may go at most -/
def fu : Nat := 5000
theorem gd_some {α : Type} {b : Bool} {k : Option α} {r : α} (h : (if b = true then k else none) = some r) : b = true ∧ k = some r := by
  cases b
  · simp at h
  · exact ⟨rfl, by simpa using h⟩
theorem bd_some {α β : Type} {o : Option α} {f : α → Option β} {r : β} (h : Option.bind o f = some r) : ∃ q, o = some q ∧ f q = some r := by
  cases o with
  | none => simp at h
  | some q => exact ⟨q, rfl, h⟩
theorem ite_T {α : Type} {c : Prop} [Decidable c] {a b : Option α} {r : α} (hc : c) (h : (if c then a else b) = some r) : a = some r := by rwa [if_pos hc] at h
theorem ite_F {α : Type} {c : Prop} [Decidable c] {a b : Option α} {r : α} (hc : ¬ c) (h : (if c then a else b) = some r) : b = some r := by rwa [if_neg hc] at h
theorem sw_ne {x v : Int32} (h : ¬ x = v) : ¬ x.toInt = v.toInt := fun q => h (Int32.toInt_inj.mp q)
/-- what holds all through a method's body -/
def cx (D : va_G) (tys : List (ClassId × FieldType)) (own : String) (cc : ByteArray) (nL : Nat) (ret : Option FieldType) (A : Nat → Prop) (p : Program) (s : State) (m : MethodId) (args : Array Value) (meth : Method) (c : Code) : Prop :=
  p.tables.exec = Jvm.exec ∧ c.code = cc ∧ meth.sig.returnType = ret ∧ c.maxLocals = nL ∧ s.vm.findClass own = some m.cls ∧ (∀ w ∈ lw_g, w.before args s = true) ∧ meth.locks = false ∧ (∀ q : Nat, s.heap.size ≤ q → A q) ∧ va_K D classes tys s
abbrev pcW (D : va_G) (tys : List (ClassId × FieldType)) (ws : va_W) (sz : Nat) : State → Prop := fun U => U.heap.size = sz ∧ va_P D classes ws U.heap ∧ va_K D classes tys U ∧ va_D (fun _ => True) ws
abbrev poW (D : va_G) (tys : List (ClassId × FieldType)) (ws : va_W) (A : Nat → Prop) : Unit → State → Prop := fun _ t => va_P D classes ws t.heap ∧ va_K D classes tys t ∧ va_D A ws
theorem fb_pc {av : List Value} {D : va_G} {tys : List (ClassId × FieldType)} {ws : va_W} {sz : Nat} : FrameBlind (va_Pc av (pcW D tys ws sz)) := fun a U g mk q => by
  obtain ⟨q0, q1, qP, qK, qD⟩ := q
  exact ⟨q0, q1, qP, va_K.moved (u := U) (U := U.calling g mk a) (Vm.Alike.refl U.vm) qK, qD⟩
section GO
variable {p : Program} {l : Launch} {e : Env} {R : Room} {s : State} {m : MethodId} {args : Array Value} {below : List Frame} {meth : Method} {c : Code} {H : Heap} {locs : List Loc} {Q : State → Prop} {cc : ByteArray} {nL pc : Nat} {ls : Array Slot} {cells slots : Nat} {D : va_G} {A : Nat → Prop} {own C : String} {idx maxL n b ci : Nat} {y : MethodName} {bytes : ByteArray} {rt : Option FieldType} {rm : Room} {As rest st0 : List Value} {tys tc : List (ClassId × FieldType)} {ws wc wr w1 w2 : va_W} {qc : vw_C} {fs : List Value}
theorem go_back (hP : va_P D classes ws H) (hD : va_D A ws) (hS : va_S A s.heap H locs) (hA : ∀ q : Nat, s.heap.size ≤ q → A q) (isC isR isP : List Nat) (hC : isC.map (fun i => ws[i]?) = wc.map some) (hRs : isR.map (fun i => ws[i]?) = wr.map some) (hnR : va_nd isR = true) (hdis : ∀ i ∈ isR, i ∉ isC) (hp2 : isP.map (fun i => (wr ++ w1)[i]?) = w2.map some) (hnP : va_nd isP = true) {H1 : Heap} (hk : ∀ q : Nat, q < H.size → ¬ va_A wc H.size q → H1[q]? = H[q]?) (hP1 : va_P D classes w1 H1) (hD1 : va_D (va_A wc H.size) w1) : va_P D classes w2 H1 ∧ va_D A w2 := by
  have hF := va_free (wc := wc) hD hS hA isC hC
  obtain ⟨h1, h2⟩ := va_join (wr := wr) (w1 := w1) hP hD isC isR hC hRs hnR hdis hk hF hP1 hD1
  have hD2 := h2.sub isP hnP hp2
  refine ⟨fun k q hq => ?_, hD2⟩
  have hlen : k < w2.length := (List.getElem?_eq_some_iff.mp hq).1
  have h3 : (isP.map (fun i => (wr ++ w1)[i]?))[k]? = some (some q) := by rw [hp2, List.getElem?_map, hq]; rfl
  rw [List.getElem?_map] at h3
  cases h4 : isP[k]? with
  | none => rw [h4] at h3; simp at h3
  | some i => rw [h4] at h3; exact h1 i q (by simpa using h3)
theorem run_V {Qc : Array Value → State → Outcome → State → Prop} (hx : p.tables.exec = Jvm.exec) (hb : c.code = cc) (hml : c.maxLocals = nL) (hown : s.vm.findClass own = some m.cls) (ht : ∀ w ∈ lw_g, w.before args s = true)
    (hM : Met l y (Cond.code y bytes maxL rt :: lw_g) rm (va_Pc (.ref b :: As) (pcW D tc wc H.size)) Qc 0 0 (va_A wc H.size))
    (hG : GoodIn lw_g (wsV own idx C y (Cond.code y bytes maxL rt :: lw_g))) (hrm : rm.cells = 0 ∧ rm.slots = 0)
    (hd : y.cls = C ∧ y.cls ≠ "java/lang/invoke/MethodHandle" ∧ y.cls ≠ "java/lang/invoke/VarHandle" ∧ (parseMethodDescriptor y.desc).map (fun d => d.parameters.length) = some n) (hR : rm.frames + 1 ≤ R.frames ∧ 8 + (maxL + 11) + rm.locals ≤ R.locals)
    (hP : va_P D classes ws H) (hD : va_D A ws) (hK : va_K D classes tys s) (hS : va_S A s.heap H locs) (hA : ∀ q : Nat, s.heap.size ≤ q → A q) (hcs : cells ≤ R.cells ∧ slots ≤ R.slots)
    (isC it : List Nat) (hC : isC.map (fun i => ws[i]?) = wc.map some) (hC1 : isC.filterMap (fun i => ws[i]?) = wc) (hT : it.filterMap (fun i => tys[i]?) = tc) (hnC : va_nd isC = true)
    (q0 : Nat) (he : wc[q0]? = some (b, .inr (ci, fs))) (hcl : classes[ci]? = some qc) (hq : qc.1 = C)
    (hst : st0 = As.reverse ++ .ref b :: rest) (hn : As.length = n) (hls : ls.size = nL) (hW : (rest.map fun v => v.category).sum ≤ 8) (hdg : decode cc pc = .ok (.invokevirtual idx, 3)) :
    va_Run p l e R s m args below meth c H locs cells slots 0 0 (F0 m pc ls st0) rest (Qc (Value.ref b :: As).toArray) (va_A wc H.size) := by
  have hPc : va_P D classes wc H := hP.sub isC hC1
  have hDc : va_D A wc := hD.sub isC hnC hC
  have hKc : va_K D classes tc s := hK.sub it hT
  subst hst
  exact va_runV (As := As) (rest := rest) ⟨hx, hb, hml, hown, ht⟩ hM (cwV n ht hG rfl hrm.1 hrm.2 hd hR) ⟨fb_pc, by rw [← hq]; exact va_recv hKc hPc hcl he, fun U hU hW => ⟨rfl, by rw [hU], by rw [hU]; exact hPc, va_K.moved hW.alike hKc, hDc.weaken (fun _ _ _ _ => trivial)⟩⟩ rfl hn hls rfl (lv_room hW) hdg hcs
theorem go_Vv (hx : p.tables.exec = Jvm.exec) (hb : c.code = cc) (hml : c.maxLocals = nL) (hown : s.vm.findClass own = some m.cls) (ht : ∀ w ∈ lw_g, w.before args s = true)
    (hM : Met l y (Cond.code y bytes maxL rt :: lw_g) rm (va_Pc (.ref b :: As) (pcW D tc wc H.size)) (va_Qv (fun (_ : Unit) => True) (poW D tc w1 (va_A wc H.size)) (va_A wc H.size)) 0 0 (va_A wc H.size))
    (hG : GoodIn lw_g (wsV own idx C y (Cond.code y bytes maxL rt :: lw_g))) (hrm : rm.cells = 0 ∧ rm.slots = 0)
    (hd : y.cls = C ∧ y.cls ≠ "java/lang/invoke/MethodHandle" ∧ y.cls ≠ "java/lang/invoke/VarHandle" ∧ (parseMethodDescriptor y.desc).map (fun d => d.parameters.length) = some n) (hR : rm.frames + 1 ≤ R.frames ∧ 8 + (maxL + 11) + rm.locals ≤ R.locals)
    (hP : va_P D classes ws H) (hD : va_D A ws) (hK : va_K D classes tys s) (hS : va_S A s.heap H locs) (hA : ∀ q : Nat, s.heap.size ≤ q → A q) (hcs : cells ≤ R.cells ∧ slots ≤ R.slots)
    (isC isR it isP : List Nat) (hC : isC.map (fun i => ws[i]?) = wc.map some) (hC1 : isC.filterMap (fun i => ws[i]?) = wc) (hRs : isR.map (fun i => ws[i]?) = wr.map some) (hT : it.filterMap (fun i => tys[i]?) = tc) (hnC : va_nd isC = true) (hnR : va_nd isR = true) (hdis : ∀ i ∈ isR, i ∉ isC) (hp2 : isP.map (fun i => (wr ++ w1)[i]?) = w2.map some) (hnP : va_nd isP = true)
    (q0 : Nat) (he : wc[q0]? = some (b, .inr (ci, fs))) (hcl : classes[ci]? = some qc) (hq : qc.1 = C)
    (hst : st0 = As.reverse ++ .ref b :: rest) (hn : As.length = n) (hls : ls.size = nL) (hW : (rest.map fun v => v.category).sum ≤ 8) (hdg : decode cc pc = .ok (.invokevirtual idx, 3))
    (kk : ∀ (H1 : Heap) (locs1 : List Loc), va_P D classes w2 H1 → va_D A w2 → va_S A s.heap H1 locs1 → W p l e R s m args below meth c H1 locs1 cells slots Q (F0 m (pc + 3) ls (rest))) : W p l e R s m args below meth c H locs cells slots Q (F0 m pc ls st0) := by
  have hF := va_free (wc := wc) hD hS hA isC hC
  refine va_callv (run_V hx hb hml hown ht hM hG hrm hd hR hP hD hK hS hA hcs isC it hC hC1 hT hnC q0 he hcl hq hst hn hls hW hdg) hS (fun q _ h => hF q h) hF (fun u t H1 locs1 e1 hvm hw hB hz hk hS1 => ?_)
  obtain ⟨hP1, hK1, hD1⟩ := hB
  rw [e1] at hP1
  obtain ⟨hP2, hD2⟩ := go_back (w1 := w1) (w2 := w2) (wr := wr) hP hD hS hA isC isR isP hC hRs hnR hdis hp2 hnP hk hP1 hD1
  exact kk H1 locs1 hP2 hD2 hS1
theorem go_Vi {r : Int32} (hx : p.tables.exec = Jvm.exec) (hb : c.code = cc) (hml : c.maxLocals = nL) (hown : s.vm.findClass own = some m.cls) (ht : ∀ w ∈ lw_g, w.before args s = true)
    (hM : Met l y (Cond.code y bytes maxL rt :: lw_g) rm (va_Pc (.ref b :: As) (pcW D tc wc H.size)) (va_Qi (fun (r1 : Int32) (_ : Unit) => r1 = r) (poW D tc w1 (va_A wc H.size)) (va_A wc H.size)) 0 0 (va_A wc H.size))
    (hG : GoodIn lw_g (wsV own idx C y (Cond.code y bytes maxL rt :: lw_g))) (hrm : rm.cells = 0 ∧ rm.slots = 0)
    (hd : y.cls = C ∧ y.cls ≠ "java/lang/invoke/MethodHandle" ∧ y.cls ≠ "java/lang/invoke/VarHandle" ∧ (parseMethodDescriptor y.desc).map (fun d => d.parameters.length) = some n) (hR : rm.frames + 1 ≤ R.frames ∧ 8 + (maxL + 11) + rm.locals ≤ R.locals)
    (hP : va_P D classes ws H) (hD : va_D A ws) (hK : va_K D classes tys s) (hS : va_S A s.heap H locs) (hA : ∀ q : Nat, s.heap.size ≤ q → A q) (hcs : cells ≤ R.cells ∧ slots ≤ R.slots)
    (isC isR it isP : List Nat) (hC : isC.map (fun i => ws[i]?) = wc.map some) (hC1 : isC.filterMap (fun i => ws[i]?) = wc) (hRs : isR.map (fun i => ws[i]?) = wr.map some) (hT : it.filterMap (fun i => tys[i]?) = tc) (hnC : va_nd isC = true) (hnR : va_nd isR = true) (hdis : ∀ i ∈ isR, i ∉ isC) (hp2 : isP.map (fun i => (wr ++ w1)[i]?) = w2.map some) (hnP : va_nd isP = true)
    (q0 : Nat) (he : wc[q0]? = some (b, .inr (ci, fs))) (hcl : classes[ci]? = some qc) (hq : qc.1 = C)
    (hst : st0 = As.reverse ++ .ref b :: rest) (hn : As.length = n) (hls : ls.size = nL) (hW : (rest.map fun v => v.category).sum ≤ 8) (hdg : decode cc pc = .ok (.invokevirtual idx, 3))
    (kk : ∀ (H1 : Heap) (locs1 : List Loc), va_P D classes w2 H1 → va_D A w2 → va_S A s.heap H1 locs1 → W p l e R s m args below meth c H1 locs1 cells slots Q (F0 m (pc + 3) ls (.int r :: rest))) : W p l e R s m args below meth c H locs cells slots Q (F0 m pc ls st0) := by
  have hF := va_free (wc := wc) hD hS hA isC hC
  refine va_calli (run_V hx hb hml hown ht hM hG hrm hd hR hP hD hK hS hA hcs isC it hC hC1 hT hnC q0 he hcl hq hst hn hls hW hdg) hS (fun q _ h => hF q h) hF (fun r1 u t H1 locs1 e1 hvm hw hB hz hk hS1 => ?_)
  subst hw
  obtain ⟨hP1, hK1, hD1⟩ := hB
  rw [e1] at hP1
  obtain ⟨hP2, hD2⟩ := go_back (w1 := w1) (w2 := w2) (wr := wr) hP hD hS hA isC isR isP hC hRs hnR hdis hp2 hnP hk hP1 hD1
  exact kk H1 locs1 hP2 hD2 hS1
theorem go_Vl {r : Int64} (hx : p.tables.exec = Jvm.exec) (hb : c.code = cc) (hml : c.maxLocals = nL) (hown : s.vm.findClass own = some m.cls) (ht : ∀ w ∈ lw_g, w.before args s = true)
    (hM : Met l y (Cond.code y bytes maxL rt :: lw_g) rm (va_Pc (.ref b :: As) (pcW D tc wc H.size)) (va_Ql (fun (r1 : Int64) (_ : Unit) => r1 = r) (poW D tc w1 (va_A wc H.size)) (va_A wc H.size)) 0 0 (va_A wc H.size))
    (hG : GoodIn lw_g (wsV own idx C y (Cond.code y bytes maxL rt :: lw_g))) (hrm : rm.cells = 0 ∧ rm.slots = 0)
    (hd : y.cls = C ∧ y.cls ≠ "java/lang/invoke/MethodHandle" ∧ y.cls ≠ "java/lang/invoke/VarHandle" ∧ (parseMethodDescriptor y.desc).map (fun d => d.parameters.length) = some n) (hR : rm.frames + 1 ≤ R.frames ∧ 8 + (maxL + 11) + rm.locals ≤ R.locals)
    (hP : va_P D classes ws H) (hD : va_D A ws) (hK : va_K D classes tys s) (hS : va_S A s.heap H locs) (hA : ∀ q : Nat, s.heap.size ≤ q → A q) (hcs : cells ≤ R.cells ∧ slots ≤ R.slots)
    (isC isR it isP : List Nat) (hC : isC.map (fun i => ws[i]?) = wc.map some) (hC1 : isC.filterMap (fun i => ws[i]?) = wc) (hRs : isR.map (fun i => ws[i]?) = wr.map some) (hT : it.filterMap (fun i => tys[i]?) = tc) (hnC : va_nd isC = true) (hnR : va_nd isR = true) (hdis : ∀ i ∈ isR, i ∉ isC) (hp2 : isP.map (fun i => (wr ++ w1)[i]?) = w2.map some) (hnP : va_nd isP = true)
    (q0 : Nat) (he : wc[q0]? = some (b, .inr (ci, fs))) (hcl : classes[ci]? = some qc) (hq : qc.1 = C)
    (hst : st0 = As.reverse ++ .ref b :: rest) (hn : As.length = n) (hls : ls.size = nL) (hW : (rest.map fun v => v.category).sum ≤ 8) (hdg : decode cc pc = .ok (.invokevirtual idx, 3))
    (kk : ∀ (H1 : Heap) (locs1 : List Loc), va_P D classes w2 H1 → va_D A w2 → va_S A s.heap H1 locs1 → W p l e R s m args below meth c H1 locs1 cells slots Q (F0 m (pc + 3) ls (.long r :: rest))) : W p l e R s m args below meth c H locs cells slots Q (F0 m pc ls st0) := by
  have hF := va_free (wc := wc) hD hS hA isC hC
  refine va_calll (run_V hx hb hml hown ht hM hG hrm hd hR hP hD hK hS hA hcs isC it hC hC1 hT hnC q0 he hcl hq hst hn hls hW hdg) hS (fun q _ h => hF q h) hF (fun r1 u t H1 locs1 e1 hvm hw hB hz hk hS1 => ?_)
  subst hw
  obtain ⟨hP1, hK1, hD1⟩ := hB
  rw [e1] at hP1
  obtain ⟨hP2, hD2⟩ := go_back (w1 := w1) (w2 := w2) (wr := wr) hP hD hS hA isC isR isP hC hRs hnR hdis hp2 hnP hk hP1 hD1
  exact kk H1 locs1 hP2 hD2 hS1
theorem run_S {Qc : Array Value → State → Outcome → State → Prop} (hx : p.tables.exec = Jvm.exec) (hb : c.code = cc) (hml : c.maxLocals = nL) (hown : s.vm.findClass own = some m.cls) (ht : ∀ w ∈ lw_g, w.before args s = true)
    (hM : Met l y (Cond.code y bytes maxL rt :: lw_g) rm (va_Pc (As) (pcW D tc wc H.size)) Qc 0 0 (va_A wc H.size))
    (hG : GoodIn lw_g (va_wsS own idx y (Cond.code y bytes maxL rt :: lw_g))) (hrm : rm.cells = 0 ∧ rm.slots = 0)
    (hd : y.cls ≠ "java/lang/invoke/MethodHandle" ∧ y.cls ≠ "java/lang/invoke/VarHandle" ∧ (parseMethodDescriptor y.desc).map (fun d => d.parameters.length) = some n) (hR : rm.frames + 1 ≤ R.frames ∧ 8 + (maxL + 11) + rm.locals ≤ R.locals)
    (hP : va_P D classes ws H) (hD : va_D A ws) (hK : va_K D classes tys s) (hS : va_S A s.heap H locs) (hA : ∀ q : Nat, s.heap.size ≤ q → A q) (hcs : cells ≤ R.cells ∧ slots ≤ R.slots)
    (isC it : List Nat) (hC : isC.map (fun i => ws[i]?) = wc.map some) (hC1 : isC.filterMap (fun i => ws[i]?) = wc) (hT : it.filterMap (fun i => tys[i]?) = tc) (hnC : va_nd isC = true)
    (hst : st0 = As.reverse ++ rest) (hn : As.length = n) (hls : ls.size = nL) (hW : (rest.map fun v => v.category).sum ≤ 8) (hdg : decode cc pc = .ok (.invokestatic idx, 3)) :
    va_Run p l e R s m args below meth c H locs cells slots 0 0 (F0 m pc ls st0) rest (Qc As.toArray) (va_A wc H.size) := by
  have hPc : va_P D classes wc H := hP.sub isC hC1
  have hDc : va_D A wc := hD.sub isC hnC hC
  have hKc : va_K D classes tc s := hK.sub it hT
  subst hst
  exact va_runS (As := As) (rest := rest) ⟨hx, hb, hml, hown, ht⟩ hM (va_cwS n ht hG rfl hrm.1 hrm.2 hd hR) ⟨fb_pc, fun U hU hW => ⟨rfl, by rw [hU], by rw [hU]; exact hPc, va_K.moved hW.alike hKc, hDc.weaken (fun _ _ _ _ => trivial)⟩⟩ rfl hn hls rfl (lv_room hW) hdg hcs
theorem go_Sv (hx : p.tables.exec = Jvm.exec) (hb : c.code = cc) (hml : c.maxLocals = nL) (hown : s.vm.findClass own = some m.cls) (ht : ∀ w ∈ lw_g, w.before args s = true)
    (hM : Met l y (Cond.code y bytes maxL rt :: lw_g) rm (va_Pc (As) (pcW D tc wc H.size)) (va_Qv (fun (_ : Unit) => True) (poW D tc w1 (va_A wc H.size)) (va_A wc H.size)) 0 0 (va_A wc H.size))
    (hG : GoodIn lw_g (va_wsS own idx y (Cond.code y bytes maxL rt :: lw_g))) (hrm : rm.cells = 0 ∧ rm.slots = 0)
    (hd : y.cls ≠ "java/lang/invoke/MethodHandle" ∧ y.cls ≠ "java/lang/invoke/VarHandle" ∧ (parseMethodDescriptor y.desc).map (fun d => d.parameters.length) = some n) (hR : rm.frames + 1 ≤ R.frames ∧ 8 + (maxL + 11) + rm.locals ≤ R.locals)
    (hP : va_P D classes ws H) (hD : va_D A ws) (hK : va_K D classes tys s) (hS : va_S A s.heap H locs) (hA : ∀ q : Nat, s.heap.size ≤ q → A q) (hcs : cells ≤ R.cells ∧ slots ≤ R.slots)
    (isC isR it isP : List Nat) (hC : isC.map (fun i => ws[i]?) = wc.map some) (hC1 : isC.filterMap (fun i => ws[i]?) = wc) (hRs : isR.map (fun i => ws[i]?) = wr.map some) (hT : it.filterMap (fun i => tys[i]?) = tc) (hnC : va_nd isC = true) (hnR : va_nd isR = true) (hdis : ∀ i ∈ isR, i ∉ isC) (hp2 : isP.map (fun i => (wr ++ w1)[i]?) = w2.map some) (hnP : va_nd isP = true)
    (hst : st0 = As.reverse ++ rest) (hn : As.length = n) (hls : ls.size = nL) (hW : (rest.map fun v => v.category).sum ≤ 8) (hdg : decode cc pc = .ok (.invokestatic idx, 3))
    (kk : ∀ (H1 : Heap) (locs1 : List Loc), va_P D classes w2 H1 → va_D A w2 → va_S A s.heap H1 locs1 → W p l e R s m args below meth c H1 locs1 cells slots Q (F0 m (pc + 3) ls (rest))) : W p l e R s m args below meth c H locs cells slots Q (F0 m pc ls st0) := by
  have hF := va_free (wc := wc) hD hS hA isC hC
  refine va_callv (run_S hx hb hml hown ht hM hG hrm hd hR hP hD hK hS hA hcs isC it hC hC1 hT hnC hst hn hls hW hdg) hS (fun q _ h => hF q h) hF (fun u t H1 locs1 e1 hvm hw hB hz hk hS1 => ?_)
  obtain ⟨hP1, hK1, hD1⟩ := hB
  rw [e1] at hP1
  obtain ⟨hP2, hD2⟩ := go_back (w1 := w1) (w2 := w2) (wr := wr) hP hD hS hA isC isR isP hC hRs hnR hdis hp2 hnP hk hP1 hD1
  exact kk H1 locs1 hP2 hD2 hS1
theorem go_Si {r : Int32} (hx : p.tables.exec = Jvm.exec) (hb : c.code = cc) (hml : c.maxLocals = nL) (hown : s.vm.findClass own = some m.cls) (ht : ∀ w ∈ lw_g, w.before args s = true)
    (hM : Met l y (Cond.code y bytes maxL rt :: lw_g) rm (va_Pc (As) (pcW D tc wc H.size)) (va_Qi (fun (r1 : Int32) (_ : Unit) => r1 = r) (poW D tc w1 (va_A wc H.size)) (va_A wc H.size)) 0 0 (va_A wc H.size))
    (hG : GoodIn lw_g (va_wsS own idx y (Cond.code y bytes maxL rt :: lw_g))) (hrm : rm.cells = 0 ∧ rm.slots = 0)
    (hd : y.cls ≠ "java/lang/invoke/MethodHandle" ∧ y.cls ≠ "java/lang/invoke/VarHandle" ∧ (parseMethodDescriptor y.desc).map (fun d => d.parameters.length) = some n) (hR : rm.frames + 1 ≤ R.frames ∧ 8 + (maxL + 11) + rm.locals ≤ R.locals)
    (hP : va_P D classes ws H) (hD : va_D A ws) (hK : va_K D classes tys s) (hS : va_S A s.heap H locs) (hA : ∀ q : Nat, s.heap.size ≤ q → A q) (hcs : cells ≤ R.cells ∧ slots ≤ R.slots)
    (isC isR it isP : List Nat) (hC : isC.map (fun i => ws[i]?) = wc.map some) (hC1 : isC.filterMap (fun i => ws[i]?) = wc) (hRs : isR.map (fun i => ws[i]?) = wr.map some) (hT : it.filterMap (fun i => tys[i]?) = tc) (hnC : va_nd isC = true) (hnR : va_nd isR = true) (hdis : ∀ i ∈ isR, i ∉ isC) (hp2 : isP.map (fun i => (wr ++ w1)[i]?) = w2.map some) (hnP : va_nd isP = true)
    (hst : st0 = As.reverse ++ rest) (hn : As.length = n) (hls : ls.size = nL) (hW : (rest.map fun v => v.category).sum ≤ 8) (hdg : decode cc pc = .ok (.invokestatic idx, 3))
    (kk : ∀ (H1 : Heap) (locs1 : List Loc), va_P D classes w2 H1 → va_D A w2 → va_S A s.heap H1 locs1 → W p l e R s m args below meth c H1 locs1 cells slots Q (F0 m (pc + 3) ls (.int r :: rest))) : W p l e R s m args below meth c H locs cells slots Q (F0 m pc ls st0) := by
  have hF := va_free (wc := wc) hD hS hA isC hC
  refine va_calli (run_S hx hb hml hown ht hM hG hrm hd hR hP hD hK hS hA hcs isC it hC hC1 hT hnC hst hn hls hW hdg) hS (fun q _ h => hF q h) hF (fun r1 u t H1 locs1 e1 hvm hw hB hz hk hS1 => ?_)
  subst hw
  obtain ⟨hP1, hK1, hD1⟩ := hB
  rw [e1] at hP1
  obtain ⟨hP2, hD2⟩ := go_back (w1 := w1) (w2 := w2) (wr := wr) hP hD hS hA isC isR isP hC hRs hnR hdis hp2 hnP hk hP1 hD1
  exact kk H1 locs1 hP2 hD2 hS1
theorem go_Sl {r : Int64} (hx : p.tables.exec = Jvm.exec) (hb : c.code = cc) (hml : c.maxLocals = nL) (hown : s.vm.findClass own = some m.cls) (ht : ∀ w ∈ lw_g, w.before args s = true)
    (hM : Met l y (Cond.code y bytes maxL rt :: lw_g) rm (va_Pc (As) (pcW D tc wc H.size)) (va_Ql (fun (r1 : Int64) (_ : Unit) => r1 = r) (poW D tc w1 (va_A wc H.size)) (va_A wc H.size)) 0 0 (va_A wc H.size))
    (hG : GoodIn lw_g (va_wsS own idx y (Cond.code y bytes maxL rt :: lw_g))) (hrm : rm.cells = 0 ∧ rm.slots = 0)
    (hd : y.cls ≠ "java/lang/invoke/MethodHandle" ∧ y.cls ≠ "java/lang/invoke/VarHandle" ∧ (parseMethodDescriptor y.desc).map (fun d => d.parameters.length) = some n) (hR : rm.frames + 1 ≤ R.frames ∧ 8 + (maxL + 11) + rm.locals ≤ R.locals)
    (hP : va_P D classes ws H) (hD : va_D A ws) (hK : va_K D classes tys s) (hS : va_S A s.heap H locs) (hA : ∀ q : Nat, s.heap.size ≤ q → A q) (hcs : cells ≤ R.cells ∧ slots ≤ R.slots)
    (isC isR it isP : List Nat) (hC : isC.map (fun i => ws[i]?) = wc.map some) (hC1 : isC.filterMap (fun i => ws[i]?) = wc) (hRs : isR.map (fun i => ws[i]?) = wr.map some) (hT : it.filterMap (fun i => tys[i]?) = tc) (hnC : va_nd isC = true) (hnR : va_nd isR = true) (hdis : ∀ i ∈ isR, i ∉ isC) (hp2 : isP.map (fun i => (wr ++ w1)[i]?) = w2.map some) (hnP : va_nd isP = true)
    (hst : st0 = As.reverse ++ rest) (hn : As.length = n) (hls : ls.size = nL) (hW : (rest.map fun v => v.category).sum ≤ 8) (hdg : decode cc pc = .ok (.invokestatic idx, 3))
    (kk : ∀ (H1 : Heap) (locs1 : List Loc), va_P D classes w2 H1 → va_D A w2 → va_S A s.heap H1 locs1 → W p l e R s m args below meth c H1 locs1 cells slots Q (F0 m (pc + 3) ls (.long r :: rest))) : W p l e R s m args below meth c H locs cells slots Q (F0 m pc ls st0) := by
  have hF := va_free (wc := wc) hD hS hA isC hC
  refine va_calll (run_S hx hb hml hown ht hM hG hrm hd hR hP hD hK hS hA hcs isC it hC hC1 hT hnC hst hn hls hW hdg) hS (fun q _ h => hF q h) hF (fun r1 u t H1 locs1 e1 hvm hw hB hz hk hS1 => ?_)
  subst hw
  obtain ⟨hP1, hK1, hD1⟩ := hB
  rw [e1] at hP1
  obtain ⟨hP2, hD2⟩ := go_back (w1 := w1) (w2 := w2) (wr := wr) hP hD hS hA isC isR isP hC hRs hnR hdis hp2 hnP hk hP1 hD1
  exact kk H1 locs1 hP2 hD2 hS1
end GO
end
section
theorem ix_0 : Cond.methodLink R_B 82 Lib.Math.max.name ∈ lw_g := lg_in (List.mem_of_getElem? (i := 168) (by decide +kernel)) rfl
theorem ix_1 : Cond.static Lib.Math.max.name ∈ lw_g := lg_in (List.mem_of_getElem? (i := 169) (by decide +kernel)) rfl
theorem ix_2 : Cond.initialized "java/lang/Math" ∈ lw_g := lg_in (List.mem_of_getElem? (i := 37) (by decide +kernel)) rfl
theorem ix_3 : Cond.code Lib.Math.max.name Lib.Math.max.code 2 (some .int) ∈ lw_g := lg_in (List.mem_of_getElem? (i := 170) (by decide +kernel)) rfl
theorem ix_4 : Cond.methodLink R_B 142 Lib.Math.min.name ∈ lw_g := lg_in (List.mem_of_getElem? (i := 278) (by decide +kernel)) rfl
theorem ix_5 : Cond.static Lib.Math.min.name ∈ lw_g := lg_in (List.mem_of_getElem? (i := 279) (by decide +kernel)) rfl
theorem ix_6 : Cond.code Lib.Math.min.name Lib.Math.min.code 2 (some .int) ∈ lw_g := lg_in (List.mem_of_getElem? (i := 280) (by decide +kernel)) rfl
theorem ix_7 : Cond.fieldLink R_W 9 "BracketSweep$Ways" "otherEnd" "[I" ∈ lw_g := lg_in (List.mem_of_getElem? (i := 52) (by decide +kernel)) rfl
theorem ix_8 : Cond.methodLink R_W 24 y_W_join ∈ lw_g := lg_in (List.mem_of_getElem? (i := 202) (by decide +kernel)) rfl
theorem ix_9 : Cond.code y_W_join b_W_join 5 (some .int) ∈ lw_g := lg_in (List.mem_of_getElem? (i := 205) (by decide +kernel)) rfl
theorem ix_10 : Cond.initialized R_W ∈ lw_g := lg_in (List.mem_of_getElem? (i := 33) (by decide +kernel)) rfl
theorem ix_11 : Cond.instanceMethod y_W_join ∈ lw_g := lg_in (List.mem_of_getElem? (i := 204) (by decide +kernel)) rfl
theorem ix_12 : Cond.selects R_W y_W_join y_W_join ∈ lw_g := lg_in (List.mem_of_getElem? (i := 10) (by decide +kernel)) rfl
theorem ix_13 : Cond.methodLink R_W 28 y_W_part ∈ lw_g := lg_in (List.mem_of_getElem? (i := 210) (by decide +kernel)) rfl
theorem ix_14 : Cond.code y_W_part b_W_part 3 none ∈ lw_g := lg_in (List.mem_of_getElem? (i := 213) (by decide +kernel)) rfl
theorem ix_15 : Cond.instanceMethod y_W_part ∈ lw_g := lg_in (List.mem_of_getElem? (i := 212) (by decide +kernel)) rfl
theorem ix_16 : Cond.selects R_W y_W_part y_W_part ∈ lw_g := lg_in (List.mem_of_getElem? (i := 11) (by decide +kernel)) rfl
theorem ix_17 : Cond.fieldLink R_W 15 "BracketSweep$Ways" "firstPlace" "[I" ∈ lw_g := lg_in (List.mem_of_getElem? (i := 53) (by decide +kernel)) rfl
theorem ix_18 : Cond.methodLink R_W 18 y_fillI ∈ lw_g := lg_in (List.mem_of_getElem? (i := 194) (by decide +kernel)) rfl
theorem ix_19 : Cond.code y_fillI b_fillI 4 none ∈ lw_g := lg_in (List.mem_of_getElem? (i := 138) (by decide +kernel)) rfl
theorem ix_20 : Cond.initialized "java/util/Arrays" ∈ lw_g := lg_in (List.mem_of_getElem? (i := 36) (by decide +kernel)) rfl
theorem ix_21 : Cond.static y_fillI ∈ lw_g := lg_in (List.mem_of_getElem? (i := 137) (by decide +kernel)) rfl
theorem ix_22 : Cond.fieldLink R_P 9 "BracketSweep$Polynomial" "row" "[J" ∈ lw_g := lg_in (List.mem_of_getElem? (i := 67) (by decide +kernel)) rfl
theorem ix_23 : Cond.methodLink R_P 18 y_fillJ ∈ lw_g := lg_in (List.mem_of_getElem? (i := 183) (by decide +kernel)) rfl
theorem ix_24 : Cond.code y_fillJ b_fillJ 5 none ∈ lw_g := lg_in (List.mem_of_getElem? (i := 185) (by decide +kernel)) rfl
theorem ix_25 : Cond.static y_fillJ ∈ lw_g := lg_in (List.mem_of_getElem? (i := 184) (by decide +kernel)) rfl
theorem ix_26 : Cond.constantLong R_P 24 (-66) ∈ lw_g := lg_in (List.mem_of_getElem? (i := 234) (by decide +kernel)) rfl
theorem ix_27 : Cond.constantLong R_P 26 (66) ∈ lw_g := lg_in (List.mem_of_getElem? (i := 235) (by decide +kernel)) rfl
theorem ix_28 : Cond.fieldLink R_P 15 "BracketSweep$Polynomial" "spare" "[J" ∈ lw_g := lg_in (List.mem_of_getElem? (i := 68) (by decide +kernel)) rfl
theorem ix_29 : Cond.methodLink R_P 28 y_P_at ∈ lw_g := lg_in (List.mem_of_getElem? (i := 230) (by decide +kernel)) rfl
theorem ix_30 : Cond.code y_P_at b_P_at 3 (some .long) ∈ lw_g := lg_in (List.mem_of_getElem? (i := 233) (by decide +kernel)) rfl
theorem ix_31 : Cond.initialized R_P ∈ lw_g := lg_in (List.mem_of_getElem? (i := 34) (by decide +kernel)) rfl
theorem ix_32 : Cond.instanceMethod y_P_at ∈ lw_g := lg_in (List.mem_of_getElem? (i := 231) (by decide +kernel)) rfl
theorem ix_33 : Cond.selects R_P y_P_at y_P_at ∈ lw_g := lg_in (List.mem_of_getElem? (i := 232) (by decide +kernel)) rfl
theorem ix_34 : Cond.methodLink R_P 32 y_P_least ∈ lw_g := lg_in (List.mem_of_getElem? (i := 222) (by decide +kernel)) rfl
theorem ix_35 : Cond.code y_P_least b_P_least 2 (some .int) ∈ lw_g := lg_in (List.mem_of_getElem? (i := 225) (by decide +kernel)) rfl
theorem ix_36 : Cond.instanceMethod y_P_least ∈ lw_g := lg_in (List.mem_of_getElem? (i := 223) (by decide +kernel)) rfl
theorem ix_37 : Cond.selects R_P y_P_least y_P_least ∈ lw_g := lg_in (List.mem_of_getElem? (i := 224) (by decide +kernel)) rfl
theorem ix_38 : Cond.fieldLink R_B 16 "BracketSweep" "crossingCount" "I" ∈ lw_g := lg_in (List.mem_of_getElem? (i := 81) (by decide +kernel)) rfl
theorem ix_39 : Cond.fieldLink R_B 50 "BracketSweep" "workedOut" "Z" ∈ lw_g := lg_in (List.mem_of_getElem? (i := 89) (by decide +kernel)) rfl
theorem ix_40 : Cond.fieldLink R_B 23 "BracketSweep" "order" "[I" ∈ lw_g := lg_in (List.mem_of_getElem? (i := 83) (by decide +kernel)) rfl
theorem ix_41 : Cond.fieldLink R_B 26 "BracketSweep" "standing" "[I" ∈ lw_g := lg_in (List.mem_of_getElem? (i := 84) (by decide +kernel)) rfl
theorem ix_42 : Cond.methodLink R_B 134 y_fillI ∈ lw_g := lg_in (List.mem_of_getElem? (i := 136) (by decide +kernel)) rfl
theorem ix_43 : Cond.fieldLink R_B 9 "BracketSweep" "labels" "[I" ∈ lw_g := lg_in (List.mem_of_getElem? (i := 79) (by decide +kernel)) rfl
theorem ix_44 : Cond.methodLink R_B 61 y_B_countStanding ∈ lw_g := lg_in (List.mem_of_getElem? (i := 132) (by decide +kernel)) rfl
theorem ix_45 : Cond.code y_B_countStanding b_B_countStanding 2 none ∈ lw_g := lg_in (List.mem_of_getElem? (i := 135) (by decide +kernel)) rfl
theorem ix_46 : Cond.initialized R_B ∈ lw_g := lg_in (List.mem_of_getElem? (i := 32) (by decide +kernel)) rfl
theorem ix_47 : Cond.instanceMethod y_B_countStanding ∈ lw_g := lg_in (List.mem_of_getElem? (i := 134) (by decide +kernel)) rfl
theorem ix_48 : Cond.selects R_B y_B_countStanding y_B_countStanding ∈ lw_g := lg_in (List.mem_of_getElem? (i := 1) (by decide +kernel)) rfl
theorem ix_49 : Cond.methodLink R_B 131 y_B_fault ∈ lw_g := lg_in (List.mem_of_getElem? (i := 151) (by decide +kernel)) rfl
theorem ix_50 : Cond.code y_B_fault b_B_fault 2 (some .int) ∈ lw_g := lg_in (List.mem_of_getElem? (i := 131) (by decide +kernel)) rfl
theorem ix_51 : Cond.instanceMethod y_B_fault ∈ lw_g := lg_in (List.mem_of_getElem? (i := 129) (by decide +kernel)) rfl
theorem ix_52 : Cond.selects R_B y_B_fault y_B_fault ∈ lw_g := lg_in (List.mem_of_getElem? (i := 130) (by decide +kernel)) rfl
theorem ix_53 : Cond.fieldLink R_B 13 "BracketSweep" "signs" "[I" ∈ lw_g := lg_in (List.mem_of_getElem? (i := 80) (by decide +kernel)) rfl
theorem ix_54 : Cond.fieldLink R_B 20 "BracketSweep" "circleCount" "I" ∈ lw_g := lg_in (List.mem_of_getElem? (i := 82) (by decide +kernel)) rfl
theorem ix_55 : Cond.methodLink R_B 95 y_B_sumOfSigns ∈ lw_g := lg_in (List.mem_of_getElem? (i := 245) (by decide +kernel)) rfl
theorem ix_56 : Cond.code y_B_sumOfSigns b_B_sumOfSigns 3 (some .int) ∈ lw_g := lg_in (List.mem_of_getElem? (i := 248) (by decide +kernel)) rfl
theorem ix_57 : Cond.instanceMethod y_B_sumOfSigns ∈ lw_g := lg_in (List.mem_of_getElem? (i := 247) (by decide +kernel)) rfl
theorem ix_58 : Cond.selects R_B y_B_sumOfSigns y_B_sumOfSigns ∈ lw_g := lg_in (List.mem_of_getElem? (i := 13) (by decide +kernel)) rfl
theorem ix_59 : Cond.fieldLink R_B 29 "BracketSweep" "goneOver" "[Z" ∈ lw_g := lg_in (List.mem_of_getElem? (i := 85) (by decide +kernel)) rfl
theorem ix_60 : Cond.methodLink R_B 139 y_B_placesJoined ∈ lw_g := lg_in (List.mem_of_getElem? (i := 160) (by decide +kernel)) rfl
theorem ix_61 : Cond.code y_B_placesJoined b_B_placesJoined 4 (some .int) ∈ lw_g := lg_in (List.mem_of_getElem? (i := 163) (by decide +kernel)) rfl
theorem ix_62 : Cond.instanceMethod y_B_placesJoined ∈ lw_g := lg_in (List.mem_of_getElem? (i := 162) (by decide +kernel)) rfl
theorem ix_63 : Cond.selects R_B y_B_placesJoined y_B_placesJoined ∈ lw_g := lg_in (List.mem_of_getElem? (i := 6) (by decide +kernel)) rfl
theorem ix_64 : Cond.methodLink R_B 120 y_B_renamed ∈ lw_g := lg_in (List.mem_of_getElem? (i := 275) (by decide +kernel)) rfl
theorem ix_65 : Cond.code y_B_renamed b_B_renamed 3 (some .int) ∈ lw_g := lg_in (List.mem_of_getElem? (i := 277) (by decide +kernel)) rfl
theorem ix_66 : Cond.static y_B_renamed ∈ lw_g := lg_in (List.mem_of_getElem? (i := 276) (by decide +kernel)) rfl
theorem ix_67 : Cond.methodLink R_B 145 y_B_swapWithNext ∈ lw_g := lg_in (List.mem_of_getElem? (i := 289) (by decide +kernel)) rfl
theorem ix_68 : Cond.code y_B_swapWithNext b_B_swapWithNext 5 none ∈ lw_g := lg_in (List.mem_of_getElem? (i := 292) (by decide +kernel)) rfl
theorem ix_69 : Cond.instanceMethod y_B_swapWithNext ∈ lw_g := lg_in (List.mem_of_getElem? (i := 291) (by decide +kernel)) rfl
theorem ix_70 : Cond.selects R_B y_B_swapWithNext y_B_swapWithNext ∈ lw_g := lg_in (List.mem_of_getElem? (i := 17) (by decide +kernel)) rfl
theorem ix_71 : Cond.fieldLink R_B 39 "BracketSweep" "ways" "LBracketSweep$Ways;" ∈ lw_g := lg_in (List.mem_of_getElem? (i := 87) (by decide +kernel)) rfl
theorem ix_72 : Cond.methodLink R_B 113 y_W_smooth ∈ lw_g := lg_in (List.mem_of_getElem? (i := 198) (by decide +kernel)) rfl
theorem ix_73 : Cond.code y_W_smooth b_W_smooth 4 (some .int) ∈ lw_g := lg_in (List.mem_of_getElem? (i := 201) (by decide +kernel)) rfl
theorem ix_74 : Cond.instanceMethod y_W_smooth ∈ lw_g := lg_in (List.mem_of_getElem? (i := 199) (by decide +kernel)) rfl
theorem ix_75 : Cond.selects R_W y_W_smooth y_W_smooth ∈ lw_g := lg_in (List.mem_of_getElem? (i := 200) (by decide +kernel)) rfl
theorem ix_76 : Cond.methodLink R_B 158 y_B_tallyFrom ∈ lw_g := lg_in (List.mem_of_getElem? (i := 195) (by decide +kernel)) rfl
theorem ix_77 : Cond.code y_B_tallyFrom b_B_tallyFrom 7 none ∈ lw_g := lg_in (List.mem_of_getElem? (i := 197) (by decide +kernel)) rfl
theorem ix_78 : Cond.static y_B_tallyFrom ∈ lw_g := lg_in (List.mem_of_getElem? (i := 196) (by decide +kernel)) rfl
theorem ix_79 : Cond.methodLink R_B 162 y_W_undo ∈ lw_g := lg_in (List.mem_of_getElem? (i := 206) (by decide +kernel)) rfl
theorem ix_80 : Cond.code y_W_undo b_W_undo 4 none ∈ lw_g := lg_in (List.mem_of_getElem? (i := 209) (by decide +kernel)) rfl
theorem ix_81 : Cond.instanceMethod y_W_undo ∈ lw_g := lg_in (List.mem_of_getElem? (i := 207) (by decide +kernel)) rfl
theorem ix_82 : Cond.selects R_W y_W_undo y_W_undo ∈ lw_g := lg_in (List.mem_of_getElem? (i := 208) (by decide +kernel)) rfl
theorem ix_83 : Cond.fieldLink R_B 33 "BracketSweep" "tally" "[I" ∈ lw_g := lg_in (List.mem_of_getElem? (i := 86) (by decide +kernel)) rfl
theorem ix_84 : Cond.methodLink R_B 109 y_W_followLabels ∈ lw_g := lg_in (List.mem_of_getElem? (i := 190) (by decide +kernel)) rfl
theorem ix_85 : Cond.code y_W_followLabels b_W_followLabels 5 none ∈ lw_g := lg_in (List.mem_of_getElem? (i := 193) (by decide +kernel)) rfl
theorem ix_86 : Cond.instanceMethod y_W_followLabels ∈ lw_g := lg_in (List.mem_of_getElem? (i := 191) (by decide +kernel)) rfl
theorem ix_87 : Cond.selects R_W y_W_followLabels y_W_followLabels ∈ lw_g := lg_in (List.mem_of_getElem? (i := 192) (by decide +kernel)) rfl
theorem ix_88 : Cond.fieldLink R_B 46 "BracketSweep" "sum" "LBracketSweep$Polynomial;" ∈ lw_g := lg_in (List.mem_of_getElem? (i := 88) (by decide +kernel)) rfl
theorem ix_89 : Cond.methodLink R_B 100 y_P_isZero ∈ lw_g := lg_in (List.mem_of_getElem? (i := 218) (by decide +kernel)) rfl
theorem ix_90 : Cond.code y_P_isZero b_P_isZero 1 (some .boolean) ∈ lw_g := lg_in (List.mem_of_getElem? (i := 221) (by decide +kernel)) rfl
theorem ix_91 : Cond.instanceMethod y_P_isZero ∈ lw_g := lg_in (List.mem_of_getElem? (i := 219) (by decide +kernel)) rfl
theorem ix_92 : Cond.selects R_P y_P_isZero y_P_isZero ∈ lw_g := lg_in (List.mem_of_getElem? (i := 220) (by decide +kernel)) rfl
theorem ix_93 : Cond.methodLink R_B 166 y_P_timesD ∈ lw_g := lg_in (List.mem_of_getElem? (i := 226) (by decide +kernel)) rfl
theorem ix_94 : Cond.code y_P_timesD b_P_timesD 2 none ∈ lw_g := lg_in (List.mem_of_getElem? (i := 229) (by decide +kernel)) rfl
theorem ix_95 : Cond.instanceMethod y_P_timesD ∈ lw_g := lg_in (List.mem_of_getElem? (i := 227) (by decide +kernel)) rfl
theorem ix_96 : Cond.selects R_P y_P_timesD y_P_timesD ∈ lw_g := lg_in (List.mem_of_getElem? (i := 228) (by decide +kernel)) rfl
theorem ix_97 : Cond.methodLink R_B 169 y_P_add ∈ lw_g := lg_in (List.mem_of_getElem? (i := 236) (by decide +kernel)) rfl
theorem ix_98 : Cond.code y_P_add b_P_add 4 none ∈ lw_g := lg_in (List.mem_of_getElem? (i := 239) (by decide +kernel)) rfl
theorem ix_99 : Cond.instanceMethod y_P_add ∈ lw_g := lg_in (List.mem_of_getElem? (i := 237) (by decide +kernel)) rfl
theorem ix_100 : Cond.selects R_P y_P_add y_P_add ∈ lw_g := lg_in (List.mem_of_getElem? (i := 238) (by decide +kernel)) rfl
theorem ix_101 : Cond.methodLink R_B 149 y_P_setZero ∈ lw_g := lg_in (List.mem_of_getElem? (i := 179) (by decide +kernel)) rfl
theorem ix_102 : Cond.code y_P_setZero b_P_setZero 1 none ∈ lw_g := lg_in (List.mem_of_getElem? (i := 182) (by decide +kernel)) rfl
theorem ix_103 : Cond.instanceMethod y_P_setZero ∈ lw_g := lg_in (List.mem_of_getElem? (i := 180) (by decide +kernel)) rfl
theorem ix_104 : Cond.selects R_P y_P_setZero y_P_setZero ∈ lw_g := lg_in (List.mem_of_getElem? (i := 181) (by decide +kernel)) rfl
theorem ix_105 : Cond.methodLink R_B 67 y_B_isCode ∈ lw_g := lg_in (List.mem_of_getElem? (i := 147) (by decide +kernel)) rfl
theorem ix_106 : Cond.code y_B_isCode b_B_isCode 1 (some .boolean) ∈ lw_g := lg_in (List.mem_of_getElem? (i := 150) (by decide +kernel)) rfl
theorem ix_107 : Cond.instanceMethod y_B_isCode ∈ lw_g := lg_in (List.mem_of_getElem? (i := 149) (by decide +kernel)) rfl
theorem ix_108 : Cond.selects R_B y_B_isCode y_B_isCode ∈ lw_g := lg_in (List.mem_of_getElem? (i := 3) (by decide +kernel)) rfl
theorem ix_109 : Cond.methodLink R_B 152 y_B_tallyStates ∈ lw_g := lg_in (List.mem_of_getElem? (i := 186) (by decide +kernel)) rfl
theorem ix_110 : Cond.code y_B_tallyStates b_B_tallyStates 2 none ∈ lw_g := lg_in (List.mem_of_getElem? (i := 189) (by decide +kernel)) rfl
theorem ix_111 : Cond.instanceMethod y_B_tallyStates ∈ lw_g := lg_in (List.mem_of_getElem? (i := 188) (by decide +kernel)) rfl
theorem ix_112 : Cond.selects R_B y_B_tallyStates y_B_tallyStates ∈ lw_g := lg_in (List.mem_of_getElem? (i := 9) (by decide +kernel)) rfl
theorem ix_113 : Cond.methodLink R_B 155 y_B_sumTally ∈ lw_g := lg_in (List.mem_of_getElem? (i := 214) (by decide +kernel)) rfl
theorem ix_114 : Cond.code y_B_sumTally b_B_sumTally 3 none ∈ lw_g := lg_in (List.mem_of_getElem? (i := 217) (by decide +kernel)) rfl
theorem ix_115 : Cond.instanceMethod y_B_sumTally ∈ lw_g := lg_in (List.mem_of_getElem? (i := 216) (by decide +kernel)) rfl
theorem ix_116 : Cond.selects R_B y_B_sumTally y_B_sumTally ∈ lw_g := lg_in (List.mem_of_getElem? (i := 12) (by decide +kernel)) rfl
theorem ix_117 : Cond.methodLink R_B 57 y_B_isLabel ∈ lw_g := lg_in (List.mem_of_getElem? (i := 117) (by decide +kernel)) rfl
theorem ix_118 : Cond.code y_B_isLabel b_B_isLabel 1 (some .boolean) ∈ lw_g := lg_in (List.mem_of_getElem? (i := 119) (by decide +kernel)) rfl
theorem ix_119 : Cond.static y_B_isLabel ∈ lw_g := lg_in (List.mem_of_getElem? (i := 118) (by decide +kernel)) rfl
theorem ix_120 : Cond.methodLink R_B 54 y_B_orderAsGiven ∈ lw_g := lg_in (List.mem_of_getElem? (i := 75) (by decide +kernel)) rfl
theorem ix_121 : Cond.code y_B_orderAsGiven b_B_orderAsGiven 2 none ∈ lw_g := lg_in (List.mem_of_getElem? (i := 78) (by decide +kernel)) rfl
theorem ix_122 : Cond.instanceMethod y_B_orderAsGiven ∈ lw_g := lg_in (List.mem_of_getElem? (i := 77) (by decide +kernel)) rfl
theorem ix_123 : Cond.selects R_B y_B_orderAsGiven y_B_orderAsGiven ∈ lw_g := lg_in (List.mem_of_getElem? (i := 0) (by decide +kernel)) rfl
theorem ix_124 : Cond.methodLink R_B 64 y_B_isCrossing ∈ lw_g := lg_in (List.mem_of_getElem? (i := 143) (by decide +kernel)) rfl
theorem ix_125 : Cond.code y_B_isCrossing b_B_isCrossing 2 (some .boolean) ∈ lw_g := lg_in (List.mem_of_getElem? (i := 146) (by decide +kernel)) rfl
theorem ix_126 : Cond.instanceMethod y_B_isCrossing ∈ lw_g := lg_in (List.mem_of_getElem? (i := 145) (by decide +kernel)) rfl
theorem ix_127 : Cond.selects R_B y_B_isCrossing y_B_isCrossing ∈ lw_g := lg_in (List.mem_of_getElem? (i := 2) (by decide +kernel)) rfl
theorem ix_128 : Cond.methodLink R_B 71 y_B_goOverNone ∈ lw_g := lg_in (List.mem_of_getElem? (i := 152) (by decide +kernel)) rfl
theorem ix_129 : Cond.code y_B_goOverNone b_B_goOverNone 2 none ∈ lw_g := lg_in (List.mem_of_getElem? (i := 155) (by decide +kernel)) rfl
theorem ix_130 : Cond.instanceMethod y_B_goOverNone ∈ lw_g := lg_in (List.mem_of_getElem? (i := 154) (by decide +kernel)) rfl
theorem ix_131 : Cond.selects R_B y_B_goOverNone y_B_goOverNone ∈ lw_g := lg_in (List.mem_of_getElem? (i := 4) (by decide +kernel)) rfl
theorem ix_132 : Cond.methodLink R_B 74 y_B_mostJoined ∈ lw_g := lg_in (List.mem_of_getElem? (i := 156) (by decide +kernel)) rfl
theorem ix_133 : Cond.code y_B_mostJoined b_B_mostJoined 5 (some .int) ∈ lw_g := lg_in (List.mem_of_getElem? (i := 159) (by decide +kernel)) rfl
theorem ix_134 : Cond.instanceMethod y_B_mostJoined ∈ lw_g := lg_in (List.mem_of_getElem? (i := 158) (by decide +kernel)) rfl
theorem ix_135 : Cond.selects R_B y_B_mostJoined y_B_mostJoined ∈ lw_g := lg_in (List.mem_of_getElem? (i := 5) (by decide +kernel)) rfl
theorem ix_136 : Cond.methodLink R_B 78 y_B_goOver ∈ lw_g := lg_in (List.mem_of_getElem? (i := 164) (by decide +kernel)) rfl
theorem ix_137 : Cond.code y_B_goOver b_B_goOver 4 (some .int) ∈ lw_g := lg_in (List.mem_of_getElem? (i := 167) (by decide +kernel)) rfl
theorem ix_138 : Cond.instanceMethod y_B_goOver ∈ lw_g := lg_in (List.mem_of_getElem? (i := 166) (by decide +kernel)) rfl
theorem ix_139 : Cond.selects R_B y_B_goOver y_B_goOver ∈ lw_g := lg_in (List.mem_of_getElem? (i := 7) (by decide +kernel)) rfl
theorem ix_140 : Cond.methodLink R_B 88 y_B_workOut ∈ lw_g := lg_in (List.mem_of_getElem? (i := 175) (by decide +kernel)) rfl
theorem ix_141 : Cond.code y_B_workOut b_B_workOut 1 none ∈ lw_g := lg_in (List.mem_of_getElem? (i := 178) (by decide +kernel)) rfl
theorem ix_142 : Cond.instanceMethod y_B_workOut ∈ lw_g := lg_in (List.mem_of_getElem? (i := 177) (by decide +kernel)) rfl
theorem ix_143 : Cond.selects R_B y_B_workOut y_B_workOut ∈ lw_g := lg_in (List.mem_of_getElem? (i := 8) (by decide +kernel)) rfl
theorem ix_144 : Cond.methodLink R_B 91 y_P_at ∈ lw_g := lg_in (List.mem_of_getElem? (i := 240) (by decide +kernel)) rfl
theorem ix_145 : Cond.constantLong R_B 98 (3) ∈ lw_g := lg_in (List.mem_of_getElem? (i := 249) (by decide +kernel)) rfl
theorem ix_146 : Cond.methodLink R_B 106 y_P_least ∈ lw_g := lg_in (List.mem_of_getElem? (i := 258) (by decide +kernel)) rfl
theorem ix_147 : Cond.methodLink R_B 103 y_P_greatest ∈ lw_g := lg_in (List.mem_of_getElem? (i := 254) (by decide +kernel)) rfl
theorem ix_148 : Cond.code y_P_greatest b_P_greatest 2 (some .int) ∈ lw_g := lg_in (List.mem_of_getElem? (i := 257) (by decide +kernel)) rfl
theorem ix_149 : Cond.instanceMethod y_P_greatest ∈ lw_g := lg_in (List.mem_of_getElem? (i := 255) (by decide +kernel)) rfl
theorem ix_150 : Cond.selects R_P y_P_greatest y_P_greatest ∈ lw_g := lg_in (List.mem_of_getElem? (i := 256) (by decide +kernel)) rfl
theorem ix_151 : Cond.methodLink R_B 117 y_B_lookAtAll ∈ lw_g := lg_in (List.mem_of_getElem? (i := 267) (by decide +kernel)) rfl
theorem ix_152 : Cond.code y_B_lookAtAll b_B_lookAtAll 2 (some .int) ∈ lw_g := lg_in (List.mem_of_getElem? (i := 270) (by decide +kernel)) rfl
theorem ix_153 : Cond.instanceMethod y_B_lookAtAll ∈ lw_g := lg_in (List.mem_of_getElem? (i := 269) (by decide +kernel)) rfl
theorem ix_154 : Cond.selects R_B y_B_lookAtAll y_B_lookAtAll ∈ lw_g := lg_in (List.mem_of_getElem? (i := 14) (by decide +kernel)) rfl
theorem ix_155 : Cond.methodLink R_B 124 y_B_unite ∈ lw_g := lg_in (List.mem_of_getElem? (i := 281) (by decide +kernel)) rfl
theorem ix_156 : Cond.code y_B_unite b_B_unite 4 none ∈ lw_g := lg_in (List.mem_of_getElem? (i := 284) (by decide +kernel)) rfl
theorem ix_157 : Cond.instanceMethod y_B_unite ∈ lw_g := lg_in (List.mem_of_getElem? (i := 283) (by decide +kernel)) rfl
theorem ix_158 : Cond.selects R_B y_B_unite y_B_unite ∈ lw_g := lg_in (List.mem_of_getElem? (i := 15) (by decide +kernel)) rfl
theorem ix_159 : Cond.methodLink R_B 128 y_B_carry ∈ lw_g := lg_in (List.mem_of_getElem? (i := 285) (by decide +kernel)) rfl
theorem ix_160 : Cond.code y_B_carry b_B_carry 4 none ∈ lw_g := lg_in (List.mem_of_getElem? (i := 288) (by decide +kernel)) rfl
theorem ix_161 : Cond.instanceMethod y_B_carry ∈ lw_g := lg_in (List.mem_of_getElem? (i := 287) (by decide +kernel)) rfl
theorem ix_162 : Cond.selects R_B y_B_carry y_B_carry ∈ lw_g := lg_in (List.mem_of_getElem? (i := 16) (by decide +kernel)) rfl
theorem ix_163 : Cond.fieldLink R_M 43 "BracketSweepModel" "n" "I" ∈ lw_g := lg_in (List.mem_of_getElem? (i := 307) (by decide +kernel)) rfl
theorem ix_164 : Cond.fieldLink R_M 13 "BracketSweepModel" "label" "[I" ∈ lw_g := lg_in (List.mem_of_getElem? (i := 310) (by decide +kernel)) rfl
theorem ix_165 : Cond.methodLink R_M 53 y_M_standing ∈ lw_g := lg_in (List.mem_of_getElem? (i := 362) (by decide +kernel)) rfl
theorem ix_166 : Cond.code y_M_standing b_M_standing 4 (some .int) ∈ lw_g := lg_in (List.mem_of_getElem? (i := 365) (by decide +kernel)) rfl
theorem ix_167 : Cond.initialized R_M ∈ lw_g := lg_in (List.mem_of_getElem? (i := 35) (by decide +kernel)) rfl
theorem ix_168 : Cond.instanceMethod y_M_standing ∈ lw_g := lg_in (List.mem_of_getElem? (i := 364) (by decide +kernel)) rfl
theorem ix_169 : Cond.selects R_M y_M_standing y_M_standing ∈ lw_g := lg_in (List.mem_of_getElem? (i := 18) (by decide +kernel)) rfl
theorem ix_170 : Cond.fieldLink R_M 16 "BracketSweepModel" "mate" "[I" ∈ lw_g := lg_in (List.mem_of_getElem? (i := 311) (by decide +kernel)) rfl
theorem ix_171 : Cond.fieldLink R_M 50 "BracketSweepModel" "circles" "I" ∈ lw_g := lg_in (List.mem_of_getElem? (i := 308) (by decide +kernel)) rfl
theorem ix_172 : Cond.fieldLink R_M 19 "BracketSweepModel" "met" "[Z" ∈ lw_g := lg_in (List.mem_of_getElem? (i := 312) (by decide +kernel)) rfl
theorem ix_173 : Cond.methodLink R_M 57 y_M_joined ∈ lw_g := lg_in (List.mem_of_getElem? (i := 379) (by decide +kernel)) rfl
theorem ix_174 : Cond.code y_M_joined b_M_joined 3 (some .int) ∈ lw_g := lg_in (List.mem_of_getElem? (i := 381) (by decide +kernel)) rfl
theorem ix_175 : Cond.static y_M_joined ∈ lw_g := lg_in (List.mem_of_getElem? (i := 380) (by decide +kernel)) rfl
theorem ix_176 : Cond.methodLink R_M 61 y_M_fault ∈ lw_g := lg_in (List.mem_of_getElem? (i := 370) (by decide +kernel)) rfl
theorem ix_177 : Cond.code y_M_fault b_M_fault 3 (some .int) ∈ lw_g := lg_in (List.mem_of_getElem? (i := 361) (by decide +kernel)) rfl
theorem ix_178 : Cond.instanceMethod y_M_fault ∈ lw_g := lg_in (List.mem_of_getElem? (i := 359) (by decide +kernel)) rfl
theorem ix_179 : Cond.selects R_M y_M_fault y_M_fault ∈ lw_g := lg_in (List.mem_of_getElem? (i := 360) (by decide +kernel)) rfl
theorem ix_180 : Cond.methodLink R_M 65 y_M_findMates ∈ lw_g := lg_in (List.mem_of_getElem? (i := 371) (by decide +kernel)) rfl
theorem ix_181 : Cond.code y_M_findMates b_M_findMates 3 none ∈ lw_g := lg_in (List.mem_of_getElem? (i := 374) (by decide +kernel)) rfl
theorem ix_182 : Cond.instanceMethod y_M_findMates ∈ lw_g := lg_in (List.mem_of_getElem? (i := 373) (by decide +kernel)) rfl
theorem ix_183 : Cond.selects R_M y_M_findMates y_M_findMates ∈ lw_g := lg_in (List.mem_of_getElem? (i := 19) (by decide +kernel)) rfl
theorem ix_184 : Cond.methodLink R_M 68 y_M_ways ∈ lw_g := lg_in (List.mem_of_getElem? (i := 375) (by decide +kernel)) rfl
theorem ix_185 : Cond.code y_M_ways b_M_ways 6 (some .int) ∈ lw_g := lg_in (List.mem_of_getElem? (i := 378) (by decide +kernel)) rfl
theorem ix_186 : Cond.instanceMethod y_M_ways ∈ lw_g := lg_in (List.mem_of_getElem? (i := 377) (by decide +kernel)) rfl
theorem ix_187 : Cond.selects R_M y_M_ways y_M_ways ∈ lw_g := lg_in (List.mem_of_getElem? (i := 20) (by decide +kernel)) rfl
theorem ix_188 : Cond.fieldLink R_M 33 "BracketSweepModel" "binomial" "[J" ∈ lw_g := lg_in (List.mem_of_getElem? (i := 317) (by decide +kernel)) rfl
theorem ix_189 : Cond.fieldLink R_M 26 "BracketSweepModel" "row" "[J" ∈ lw_g := lg_in (List.mem_of_getElem? (i := 315) (by decide +kernel)) rfl
theorem ix_190 : Cond.fieldLink R_M 46 "BracketSweepModel" "known" "Z" ∈ lw_g := lg_in (List.mem_of_getElem? (i := 314) (by decide +kernel)) rfl
theorem ix_191 : Cond.fieldLink R_M 30 "BracketSweepModel" "tally" "[I" ∈ lw_g := lg_in (List.mem_of_getElem? (i := 316) (by decide +kernel)) rfl
theorem ix_192 : Cond.methodLink R_M 71 y_M_bits ∈ lw_g := lg_in (List.mem_of_getElem? (i := 390) (by decide +kernel)) rfl
theorem ix_193 : Cond.code y_M_bits b_M_bits 3 (some .int) ∈ lw_g := lg_in (List.mem_of_getElem? (i := 392) (by decide +kernel)) rfl
theorem ix_194 : Cond.static y_M_bits ∈ lw_g := lg_in (List.mem_of_getElem? (i := 391) (by decide +kernel)) rfl
theorem ix_195 : Cond.methodLink R_M 74 y_M_expand ∈ lw_g := lg_in (List.mem_of_getElem? (i := 393) (by decide +kernel)) rfl
theorem ix_196 : Cond.code y_M_expand b_M_expand 6 none ∈ lw_g := lg_in (List.mem_of_getElem? (i := 396) (by decide +kernel)) rfl
theorem ix_197 : Cond.instanceMethod y_M_expand ∈ lw_g := lg_in (List.mem_of_getElem? (i := 395) (by decide +kernel)) rfl
theorem ix_198 : Cond.selects R_M y_M_expand y_M_expand ∈ lw_g := lg_in (List.mem_of_getElem? (i := 22) (by decide +kernel)) rfl
theorem ix_199 : Cond.fieldLink R_M 7 "BracketSweepModel" "sign" "[I" ∈ lw_g := lg_in (List.mem_of_getElem? (i := 309) (by decide +kernel)) rfl
theorem ix_200 : Cond.methodLink R_M 78 y_M_know ∈ lw_g := lg_in (List.mem_of_getElem? (i := 386) (by decide +kernel)) rfl
theorem ix_201 : Cond.code y_M_know b_M_know 2 none ∈ lw_g := lg_in (List.mem_of_getElem? (i := 389) (by decide +kernel)) rfl
theorem ix_202 : Cond.instanceMethod y_M_know ∈ lw_g := lg_in (List.mem_of_getElem? (i := 388) (by decide +kernel)) rfl
theorem ix_203 : Cond.selects R_M y_M_know y_M_know ∈ lw_g := lg_in (List.mem_of_getElem? (i := 21) (by decide +kernel)) rfl
theorem ix_204 : Cond.methodLink R_M 81 y_M_signs ∈ lw_g := lg_in (List.mem_of_getElem? (i := 401) (by decide +kernel)) rfl
theorem ix_205 : Cond.code y_M_signs b_M_signs 3 (some .int) ∈ lw_g := lg_in (List.mem_of_getElem? (i := 404) (by decide +kernel)) rfl
theorem ix_206 : Cond.instanceMethod y_M_signs ∈ lw_g := lg_in (List.mem_of_getElem? (i := 403) (by decide +kernel)) rfl
theorem ix_207 : Cond.selects R_M y_M_signs y_M_signs ∈ lw_g := lg_in (List.mem_of_getElem? (i := 23) (by decide +kernel)) rfl
theorem ix_208 : Cond.methodLink R_M 84 y_M_bracket ∈ lw_g := lg_in (List.mem_of_getElem? (i := 405) (by decide +kernel)) rfl
theorem ix_209 : Cond.code y_M_bracket b_M_bracket 2 (some .long) ∈ lw_g := lg_in (List.mem_of_getElem? (i := 385) (by decide +kernel)) rfl
theorem ix_210 : Cond.instanceMethod y_M_bracket ∈ lw_g := lg_in (List.mem_of_getElem? (i := 383) (by decide +kernel)) rfl
theorem ix_211 : Cond.selects R_M y_M_bracket y_M_bracket ∈ lw_g := lg_in (List.mem_of_getElem? (i := 384) (by decide +kernel)) rfl
theorem ix_212 : Cond.fieldLink R_M 23 "BracketSweepModel" "over" "[Z" ∈ lw_g := lg_in (List.mem_of_getElem? (i := 313) (by decide +kernel)) rfl
theorem ix_213 : Cond.methodLink R_M 88 y_M_stands ∈ lw_g := lg_in (List.mem_of_getElem? (i := 422) (by decide +kernel)) rfl
theorem ix_214 : Cond.code y_M_stands b_M_stands 4 (some .boolean) ∈ lw_g := lg_in (List.mem_of_getElem? (i := 425) (by decide +kernel)) rfl
theorem ix_215 : Cond.instanceMethod y_M_stands ∈ lw_g := lg_in (List.mem_of_getElem? (i := 424) (by decide +kernel)) rfl
theorem ix_216 : Cond.selects R_M y_M_stands y_M_stands ∈ lw_g := lg_in (List.mem_of_getElem? (i := 26) (by decide +kernel)) rfl
theorem ix_217 : Cond.methodLink R_M 92 y_M_open ∈ lw_g := lg_in (List.mem_of_getElem? (i := 414) (by decide +kernel)) rfl
theorem ix_218 : Cond.code y_M_open b_M_open 3 (some .int) ∈ lw_g := lg_in (List.mem_of_getElem? (i := 417) (by decide +kernel)) rfl
theorem ix_219 : Cond.instanceMethod y_M_open ∈ lw_g := lg_in (List.mem_of_getElem? (i := 416) (by decide +kernel)) rfl
theorem ix_220 : Cond.selects R_M y_M_open y_M_open ∈ lw_g := lg_in (List.mem_of_getElem? (i := 24) (by decide +kernel)) rfl
theorem ix_221 : Cond.methodLink R_M 95 y_M_touching ∈ lw_g := lg_in (List.mem_of_getElem? (i := 418) (by decide +kernel)) rfl
theorem ix_222 : Cond.code y_M_touching b_M_touching 4 (some .int) ∈ lw_g := lg_in (List.mem_of_getElem? (i := 421) (by decide +kernel)) rfl
theorem ix_223 : Cond.instanceMethod y_M_touching ∈ lw_g := lg_in (List.mem_of_getElem? (i := 420) (by decide +kernel)) rfl
theorem ix_224 : Cond.selects R_M y_M_touching y_M_touching ∈ lw_g := lg_in (List.mem_of_getElem? (i := 25) (by decide +kernel)) rfl
theorem ix_225 : Cond.fieldLink R_M 36 "BracketSweepModel" "four" "[I" ∈ lw_g := lg_in (List.mem_of_getElem? (i := 318) (by decide +kernel)) rfl
theorem ix_226 : Cond.methodLink R_M 98 y_M_become ∈ lw_g := lg_in (List.mem_of_getElem? (i := 442) (by decide +kernel)) rfl
theorem ix_227 : Cond.code y_M_become b_M_become 4 none ∈ lw_g := lg_in (List.mem_of_getElem? (i := 445) (by decide +kernel)) rfl
theorem ix_228 : Cond.instanceMethod y_M_become ∈ lw_g := lg_in (List.mem_of_getElem? (i := 444) (by decide +kernel)) rfl
theorem ix_229 : Cond.selects R_M y_M_become y_M_become ∈ lw_g := lg_in (List.mem_of_getElem? (i := 29) (by decide +kernel)) rfl
theorem ix_230 : Cond.methodLink R_M 102 y_M_closing ∈ lw_g := lg_in (List.mem_of_getElem? (i := 434) (by decide +kernel)) rfl
theorem ix_231 : Cond.code y_M_closing b_M_closing 9 (some .int) ∈ lw_g := lg_in (List.mem_of_getElem? (i := 437) (by decide +kernel)) rfl
theorem ix_232 : Cond.instanceMethod y_M_closing ∈ lw_g := lg_in (List.mem_of_getElem? (i := 436) (by decide +kernel)) rfl
theorem ix_233 : Cond.selects R_M y_M_closing y_M_closing ∈ lw_g := lg_in (List.mem_of_getElem? (i := 27) (by decide +kernel)) rfl
theorem ix_234 : Cond.methodLink R_M 105 y_M_join ∈ lw_g := lg_in (List.mem_of_getElem? (i := 438) (by decide +kernel)) rfl
theorem ix_235 : Cond.code y_M_join b_M_join 3 (some .int) ∈ lw_g := lg_in (List.mem_of_getElem? (i := 441) (by decide +kernel)) rfl
theorem ix_236 : Cond.instanceMethod y_M_join ∈ lw_g := lg_in (List.mem_of_getElem? (i := 440) (by decide +kernel)) rfl
theorem ix_237 : Cond.selects R_M y_M_join y_M_join ∈ lw_g := lg_in (List.mem_of_getElem? (i := 28) (by decide +kernel)) rfl
theorem ix_238 : Cond.methodLink R_M 109 y_M_exchange ∈ lw_g := lg_in (List.mem_of_getElem? (i := 454) (by decide +kernel)) rfl
theorem ix_239 : Cond.code y_M_exchange b_M_exchange 5 none ∈ lw_g := lg_in (List.mem_of_getElem? (i := 457) (by decide +kernel)) rfl
theorem ix_240 : Cond.instanceMethod y_M_exchange ∈ lw_g := lg_in (List.mem_of_getElem? (i := 456) (by decide +kernel)) rfl
theorem ix_241 : Cond.selects R_M y_M_exchange y_M_exchange ∈ lw_g := lg_in (List.mem_of_getElem? (i := 30) (by decide +kernel)) rfl
theorem g_W_24 : GoodIn lw_g (wsV R_W 24 R_W y_W_join (Cond.code y_W_join b_W_join 5 (some .int) :: lw_g)) := gd_V ix_8 ix_11 ix_12 ix_10 ix_9
theorem g_W_28 : GoodIn lw_g (wsV R_W 28 R_W y_W_part (Cond.code y_W_part b_W_part 3 none :: lw_g)) := gd_V ix_13 ix_15 ix_16 ix_10 ix_14
theorem g_W_18 : GoodIn lw_g (va_wsS R_W 18 y_fillI (Cond.code y_fillI b_fillI 4 none :: lw_g)) := gd_S ix_18 ix_21 ix_20 ix_19
theorem g_P_18 : GoodIn lw_g (va_wsS R_P 18 y_fillJ (Cond.code y_fillJ b_fillJ 5 none :: lw_g)) := gd_S ix_23 ix_25 ix_20 ix_24
theorem g_P_28 : GoodIn lw_g (wsV R_P 28 R_P y_P_at (Cond.code y_P_at b_P_at 3 (some .long) :: lw_g)) := gd_V ix_29 ix_32 ix_33 ix_31 ix_30
theorem g_P_32 : GoodIn lw_g (wsV R_P 32 R_P y_P_least (Cond.code y_P_least b_P_least 2 (some .int) :: lw_g)) := gd_V ix_34 ix_36 ix_37 ix_31 ix_35
theorem g_B_134 : GoodIn lw_g (va_wsS R_B 134 y_fillI (Cond.code y_fillI b_fillI 4 none :: lw_g)) := gd_S ix_42 ix_21 ix_20 ix_19
theorem g_B_61 : GoodIn lw_g (wsV R_B 61 R_B y_B_countStanding (Cond.code y_B_countStanding b_B_countStanding 2 none :: lw_g)) := gd_V ix_44 ix_47 ix_48 ix_46 ix_45
theorem g_B_131 : GoodIn lw_g (wsV R_B 131 R_B y_B_fault (Cond.code y_B_fault b_B_fault 2 (some .int) :: lw_g)) := gd_V ix_49 ix_51 ix_52 ix_46 ix_50
theorem g_B_95 : GoodIn lw_g (wsV R_B 95 R_B y_B_sumOfSigns (Cond.code y_B_sumOfSigns b_B_sumOfSigns 3 (some .int) :: lw_g)) := gd_V ix_55 ix_57 ix_58 ix_46 ix_56
theorem g_B_139 : GoodIn lw_g (wsV R_B 139 R_B y_B_placesJoined (Cond.code y_B_placesJoined b_B_placesJoined 4 (some .int) :: lw_g)) := gd_V ix_60 ix_62 ix_63 ix_46 ix_61
theorem g_B_120 : GoodIn lw_g (va_wsS R_B 120 y_B_renamed (Cond.code y_B_renamed b_B_renamed 3 (some .int) :: lw_g)) := gd_S ix_64 ix_66 ix_46 ix_65
theorem g_B_145 : GoodIn lw_g (wsV R_B 145 R_B y_B_swapWithNext (Cond.code y_B_swapWithNext b_B_swapWithNext 5 none :: lw_g)) := gd_V ix_67 ix_69 ix_70 ix_46 ix_68
theorem g_B_113 : GoodIn lw_g (wsV R_B 113 R_W y_W_smooth (Cond.code y_W_smooth b_W_smooth 4 (some .int) :: lw_g)) := gd_V ix_72 ix_74 ix_75 ix_10 ix_73
theorem g_B_158 : GoodIn lw_g (va_wsS R_B 158 y_B_tallyFrom (Cond.code y_B_tallyFrom b_B_tallyFrom 7 none :: lw_g)) := gd_S ix_76 ix_78 ix_46 ix_77
theorem g_B_162 : GoodIn lw_g (wsV R_B 162 R_W y_W_undo (Cond.code y_W_undo b_W_undo 4 none :: lw_g)) := gd_V ix_79 ix_81 ix_82 ix_10 ix_80
theorem g_B_109 : GoodIn lw_g (wsV R_B 109 R_W y_W_followLabels (Cond.code y_W_followLabels b_W_followLabels 5 none :: lw_g)) := gd_V ix_84 ix_86 ix_87 ix_10 ix_85
theorem g_B_100 : GoodIn lw_g (wsV R_B 100 R_P y_P_isZero (Cond.code y_P_isZero b_P_isZero 1 (some .boolean) :: lw_g)) := gd_V ix_89 ix_91 ix_92 ix_31 ix_90
theorem g_B_166 : GoodIn lw_g (wsV R_B 166 R_P y_P_timesD (Cond.code y_P_timesD b_P_timesD 2 none :: lw_g)) := gd_V ix_93 ix_95 ix_96 ix_31 ix_94
theorem g_B_169 : GoodIn lw_g (wsV R_B 169 R_P y_P_add (Cond.code y_P_add b_P_add 4 none :: lw_g)) := gd_V ix_97 ix_99 ix_100 ix_31 ix_98
theorem g_B_149 : GoodIn lw_g (wsV R_B 149 R_P y_P_setZero (Cond.code y_P_setZero b_P_setZero 1 none :: lw_g)) := gd_V ix_101 ix_103 ix_104 ix_31 ix_102
theorem g_B_67 : GoodIn lw_g (wsV R_B 67 R_B y_B_isCode (Cond.code y_B_isCode b_B_isCode 1 (some .boolean) :: lw_g)) := gd_V ix_105 ix_107 ix_108 ix_46 ix_106
theorem g_B_152 : GoodIn lw_g (wsV R_B 152 R_B y_B_tallyStates (Cond.code y_B_tallyStates b_B_tallyStates 2 none :: lw_g)) := gd_V ix_109 ix_111 ix_112 ix_46 ix_110
theorem g_B_155 : GoodIn lw_g (wsV R_B 155 R_B y_B_sumTally (Cond.code y_B_sumTally b_B_sumTally 3 none :: lw_g)) := gd_V ix_113 ix_115 ix_116 ix_46 ix_114
theorem g_B_57 : GoodIn lw_g (va_wsS R_B 57 y_B_isLabel (Cond.code y_B_isLabel b_B_isLabel 1 (some .boolean) :: lw_g)) := gd_S ix_117 ix_119 ix_46 ix_118
theorem g_B_54 : GoodIn lw_g (wsV R_B 54 R_B y_B_orderAsGiven (Cond.code y_B_orderAsGiven b_B_orderAsGiven 2 none :: lw_g)) := gd_V ix_120 ix_122 ix_123 ix_46 ix_121
theorem g_B_64 : GoodIn lw_g (wsV R_B 64 R_B y_B_isCrossing (Cond.code y_B_isCrossing b_B_isCrossing 2 (some .boolean) :: lw_g)) := gd_V ix_124 ix_126 ix_127 ix_46 ix_125
theorem g_B_71 : GoodIn lw_g (wsV R_B 71 R_B y_B_goOverNone (Cond.code y_B_goOverNone b_B_goOverNone 2 none :: lw_g)) := gd_V ix_128 ix_130 ix_131 ix_46 ix_129
theorem g_B_74 : GoodIn lw_g (wsV R_B 74 R_B y_B_mostJoined (Cond.code y_B_mostJoined b_B_mostJoined 5 (some .int) :: lw_g)) := gd_V ix_132 ix_134 ix_135 ix_46 ix_133
theorem g_B_78 : GoodIn lw_g (wsV R_B 78 R_B y_B_goOver (Cond.code y_B_goOver b_B_goOver 4 (some .int) :: lw_g)) := gd_V ix_136 ix_138 ix_139 ix_46 ix_137
theorem g_B_88 : GoodIn lw_g (wsV R_B 88 R_B y_B_workOut (Cond.code y_B_workOut b_B_workOut 1 none :: lw_g)) := gd_V ix_140 ix_142 ix_143 ix_46 ix_141
theorem g_B_91 : GoodIn lw_g (wsV R_B 91 R_P y_P_at (Cond.code y_P_at b_P_at 3 (some .long) :: lw_g)) := gd_V ix_144 ix_32 ix_33 ix_31 ix_30
theorem g_B_106 : GoodIn lw_g (wsV R_B 106 R_P y_P_least (Cond.code y_P_least b_P_least 2 (some .int) :: lw_g)) := gd_V ix_146 ix_36 ix_37 ix_31 ix_35
theorem g_B_103 : GoodIn lw_g (wsV R_B 103 R_P y_P_greatest (Cond.code y_P_greatest b_P_greatest 2 (some .int) :: lw_g)) := gd_V ix_147 ix_149 ix_150 ix_31 ix_148
theorem g_B_117 : GoodIn lw_g (wsV R_B 117 R_B y_B_lookAtAll (Cond.code y_B_lookAtAll b_B_lookAtAll 2 (some .int) :: lw_g)) := gd_V ix_151 ix_153 ix_154 ix_46 ix_152
theorem g_B_124 : GoodIn lw_g (wsV R_B 124 R_B y_B_unite (Cond.code y_B_unite b_B_unite 4 none :: lw_g)) := gd_V ix_155 ix_157 ix_158 ix_46 ix_156
theorem g_B_128 : GoodIn lw_g (wsV R_B 128 R_B y_B_carry (Cond.code y_B_carry b_B_carry 4 none :: lw_g)) := gd_V ix_159 ix_161 ix_162 ix_46 ix_160
theorem g_M_53 : GoodIn lw_g (wsV R_M 53 R_M y_M_standing (Cond.code y_M_standing b_M_standing 4 (some .int) :: lw_g)) := gd_V ix_165 ix_168 ix_169 ix_167 ix_166
theorem g_M_57 : GoodIn lw_g (va_wsS R_M 57 y_M_joined (Cond.code y_M_joined b_M_joined 3 (some .int) :: lw_g)) := gd_S ix_173 ix_175 ix_167 ix_174
theorem g_M_61 : GoodIn lw_g (wsV R_M 61 R_M y_M_fault (Cond.code y_M_fault b_M_fault 3 (some .int) :: lw_g)) := gd_V ix_176 ix_178 ix_179 ix_167 ix_177
theorem g_M_65 : GoodIn lw_g (wsV R_M 65 R_M y_M_findMates (Cond.code y_M_findMates b_M_findMates 3 none :: lw_g)) := gd_V ix_180 ix_182 ix_183 ix_167 ix_181
theorem g_M_68 : GoodIn lw_g (wsV R_M 68 R_M y_M_ways (Cond.code y_M_ways b_M_ways 6 (some .int) :: lw_g)) := gd_V ix_184 ix_186 ix_187 ix_167 ix_185
theorem g_M_71 : GoodIn lw_g (va_wsS R_M 71 y_M_bits (Cond.code y_M_bits b_M_bits 3 (some .int) :: lw_g)) := gd_S ix_192 ix_194 ix_167 ix_193
theorem g_M_74 : GoodIn lw_g (wsV R_M 74 R_M y_M_expand (Cond.code y_M_expand b_M_expand 6 none :: lw_g)) := gd_V ix_195 ix_197 ix_198 ix_167 ix_196
theorem g_M_78 : GoodIn lw_g (wsV R_M 78 R_M y_M_know (Cond.code y_M_know b_M_know 2 none :: lw_g)) := gd_V ix_200 ix_202 ix_203 ix_167 ix_201
theorem g_M_81 : GoodIn lw_g (wsV R_M 81 R_M y_M_signs (Cond.code y_M_signs b_M_signs 3 (some .int) :: lw_g)) := gd_V ix_204 ix_206 ix_207 ix_167 ix_205
theorem g_M_84 : GoodIn lw_g (wsV R_M 84 R_M y_M_bracket (Cond.code y_M_bracket b_M_bracket 2 (some .long) :: lw_g)) := gd_V ix_208 ix_210 ix_211 ix_167 ix_209
theorem g_M_88 : GoodIn lw_g (wsV R_M 88 R_M y_M_stands (Cond.code y_M_stands b_M_stands 4 (some .boolean) :: lw_g)) := gd_V ix_213 ix_215 ix_216 ix_167 ix_214
theorem g_M_92 : GoodIn lw_g (wsV R_M 92 R_M y_M_open (Cond.code y_M_open b_M_open 3 (some .int) :: lw_g)) := gd_V ix_217 ix_219 ix_220 ix_167 ix_218
theorem g_M_95 : GoodIn lw_g (wsV R_M 95 R_M y_M_touching (Cond.code y_M_touching b_M_touching 4 (some .int) :: lw_g)) := gd_V ix_221 ix_223 ix_224 ix_167 ix_222
theorem g_M_98 : GoodIn lw_g (wsV R_M 98 R_M y_M_become (Cond.code y_M_become b_M_become 4 none :: lw_g)) := gd_V ix_226 ix_228 ix_229 ix_167 ix_227
theorem g_M_102 : GoodIn lw_g (wsV R_M 102 R_M y_M_closing (Cond.code y_M_closing b_M_closing 9 (some .int) :: lw_g)) := gd_V ix_230 ix_232 ix_233 ix_167 ix_231
theorem g_M_105 : GoodIn lw_g (wsV R_M 105 R_M y_M_join (Cond.code y_M_join b_M_join 3 (some .int) :: lw_g)) := gd_V ix_234 ix_236 ix_237 ix_167 ix_235
theorem g_M_109 : GoodIn lw_g (wsV R_M 109 R_M y_M_exchange (Cond.code y_M_exchange b_M_exchange 5 none :: lw_g)) := gd_V ix_238 ix_240 ix_241 ix_167 ix_239
theorem d_fillI_0 : decode b_fillI 0 = .ok (.iconst 0, 1) := by decide +kernel
theorem d_fillI_1 : decode b_fillI 1 = .ok (.istore_n 2, 1) := by decide +kernel
theorem d_fillI_2 : decode b_fillI 2 = .ok (.aload_n 0, 1) := by decide +kernel
theorem d_fillI_3 : decode b_fillI 3 = .ok (.arraylength, 1) := by decide +kernel
theorem d_fillI_4 : decode b_fillI 4 = .ok (.istore_n 3, 1) := by decide +kernel
theorem d_fillI_5 : decode b_fillI 5 = .ok (.iload_n 2, 1) := by decide +kernel
theorem d_fillI_6 : decode b_fillI 6 = .ok (.iload_n 3, 1) := by decide +kernel
theorem d_fillI_7 : decode b_fillI 7 = .ok (.if_icmp .ge 13, 3) := by decide +kernel
theorem d_fillI_10 : decode b_fillI 10 = .ok (.aload_n 0, 1) := by decide +kernel
theorem d_fillI_11 : decode b_fillI 11 = .ok (.iload_n 2, 1) := by decide +kernel
theorem d_fillI_12 : decode b_fillI 12 = .ok (.iload_n 1, 1) := by decide +kernel
theorem d_fillI_13 : decode b_fillI 13 = .ok (.iastore, 1) := by decide +kernel
theorem d_fillI_14 : decode b_fillI 14 = .ok (.iinc 2 1, 3) := by decide +kernel
theorem d_fillI_17 : decode b_fillI 17 = .ok (.goto (-12), 3) := by decide +kernel
theorem d_fillI_20 : decode b_fillI 20 = .ok (.return_, 1) := by decide +kernel
theorem d_fillJ_0 : decode b_fillJ 0 = .ok (.iconst 0, 1) := by decide +kernel
theorem d_fillJ_1 : decode b_fillJ 1 = .ok (.istore_n 3, 1) := by decide +kernel
theorem d_fillJ_2 : decode b_fillJ 2 = .ok (.aload_n 0, 1) := by decide +kernel
theorem d_fillJ_3 : decode b_fillJ 3 = .ok (.arraylength, 1) := by decide +kernel
theorem d_fillJ_4 : decode b_fillJ 4 = .ok (.istore 4, 2) := by decide +kernel
theorem d_fillJ_6 : decode b_fillJ 6 = .ok (.iload_n 3, 1) := by decide +kernel
theorem d_fillJ_7 : decode b_fillJ 7 = .ok (.iload 4, 2) := by decide +kernel
theorem d_fillJ_9 : decode b_fillJ 9 = .ok (.if_icmp .ge 13, 3) := by decide +kernel
theorem d_fillJ_12 : decode b_fillJ 12 = .ok (.aload_n 0, 1) := by decide +kernel
theorem d_fillJ_13 : decode b_fillJ 13 = .ok (.iload_n 3, 1) := by decide +kernel
theorem d_fillJ_14 : decode b_fillJ 14 = .ok (.lload_n 1, 1) := by decide +kernel
theorem d_fillJ_15 : decode b_fillJ 15 = .ok (.lastore, 1) := by decide +kernel
theorem d_fillJ_16 : decode b_fillJ 16 = .ok (.iinc 3 1, 3) := by decide +kernel
theorem d_fillJ_19 : decode b_fillJ 19 = .ok (.goto (-13), 3) := by decide +kernel
theorem d_fillJ_22 : decode b_fillJ 22 = .ok (.return_, 1) := by decide +kernel
end
section
theorem d_B_init_0 : decode b_B_init 0 = .ok (.aload_n 0, 1) := by decide +kernel
theorem d_B_init_1 : decode b_B_init 1 = .ok (.invokespecial 3, 3) := by decide +kernel
theorem d_B_init_4 : decode b_B_init 4 = .ok (.aload_n 0, 1) := by decide +kernel
theorem d_B_init_5 : decode b_B_init 5 = .ok (.bipush 40, 2) := by decide +kernel
theorem d_B_init_7 : decode b_B_init 7 = .ok (.newarray .int, 2) := by decide +kernel
theorem d_B_init_9 : decode b_B_init 9 = .ok (.putfield 9, 3) := by decide +kernel
theorem d_B_init_12 : decode b_B_init 12 = .ok (.aload_n 0, 1) := by decide +kernel
theorem d_B_init_13 : decode b_B_init 13 = .ok (.bipush 10, 2) := by decide +kernel
theorem d_B_init_15 : decode b_B_init 15 = .ok (.newarray .int, 2) := by decide +kernel
theorem d_B_init_17 : decode b_B_init 17 = .ok (.putfield 13, 3) := by decide +kernel
theorem d_B_init_20 : decode b_B_init 20 = .ok (.aload_n 0, 1) := by decide +kernel
theorem d_B_init_21 : decode b_B_init 21 = .ok (.iconst 0, 1) := by decide +kernel
theorem d_B_init_22 : decode b_B_init 22 = .ok (.putfield 16, 3) := by decide +kernel
theorem d_B_init_25 : decode b_B_init 25 = .ok (.aload_n 0, 1) := by decide +kernel
theorem d_B_init_26 : decode b_B_init 26 = .ok (.iconst 0, 1) := by decide +kernel
theorem d_B_init_27 : decode b_B_init 27 = .ok (.putfield 20, 3) := by decide +kernel
theorem d_B_init_30 : decode b_B_init 30 = .ok (.aload_n 0, 1) := by decide +kernel
theorem d_B_init_31 : decode b_B_init 31 = .ok (.bipush 10, 2) := by decide +kernel
theorem d_B_init_33 : decode b_B_init 33 = .ok (.newarray .int, 2) := by decide +kernel
theorem d_B_init_35 : decode b_B_init 35 = .ok (.putfield 23, 3) := by decide +kernel
theorem d_B_init_38 : decode b_B_init 38 = .ok (.aload_n 0, 1) := by decide +kernel
theorem d_B_init_39 : decode b_B_init 39 = .ok (.bipush 100, 2) := by decide +kernel
theorem d_B_init_41 : decode b_B_init 41 = .ok (.newarray .int, 2) := by decide +kernel
theorem d_B_init_43 : decode b_B_init 43 = .ok (.putfield 26, 3) := by decide +kernel
theorem d_B_init_46 : decode b_B_init 46 = .ok (.aload_n 0, 1) := by decide +kernel
theorem d_B_init_47 : decode b_B_init 47 = .ok (.bipush 10, 2) := by decide +kernel
theorem d_B_init_49 : decode b_B_init 49 = .ok (.newarray .boolean, 2) := by decide +kernel
theorem d_B_init_51 : decode b_B_init 51 = .ok (.putfield 29, 3) := by decide +kernel
theorem d_B_init_54 : decode b_B_init 54 = .ok (.aload_n 0, 1) := by decide +kernel
theorem d_B_init_55 : decode b_B_init 55 = .ok (.sipush 330, 3) := by decide +kernel
theorem d_B_init_58 : decode b_B_init 58 = .ok (.newarray .int, 2) := by decide +kernel
theorem d_B_init_60 : decode b_B_init 60 = .ok (.putfield 33, 3) := by decide +kernel
theorem d_B_init_63 : decode b_B_init 63 = .ok (.aload_n 0, 1) := by decide +kernel
theorem d_B_init_64 : decode b_B_init 64 = .ok (.new 36, 3) := by decide +kernel
theorem d_B_init_67 : decode b_B_init 67 = .ok (.dup, 1) := by decide +kernel
theorem d_B_init_68 : decode b_B_init 68 = .ok (.invokespecial 38, 3) := by decide +kernel
theorem d_B_init_71 : decode b_B_init 71 = .ok (.putfield 39, 3) := by decide +kernel
theorem d_B_init_74 : decode b_B_init 74 = .ok (.aload_n 0, 1) := by decide +kernel
theorem d_B_init_75 : decode b_B_init 75 = .ok (.new 43, 3) := by decide +kernel
theorem d_B_init_78 : decode b_B_init 78 = .ok (.dup, 1) := by decide +kernel
theorem d_B_init_79 : decode b_B_init 79 = .ok (.invokespecial 45, 3) := by decide +kernel
theorem d_B_init_82 : decode b_B_init 82 = .ok (.putfield 46, 3) := by decide +kernel
theorem d_B_init_85 : decode b_B_init 85 = .ok (.aload_n 0, 1) := by decide +kernel
theorem d_B_init_86 : decode b_B_init 86 = .ok (.iconst 0, 1) := by decide +kernel
theorem d_B_init_87 : decode b_B_init 87 = .ok (.putfield 50, 3) := by decide +kernel
theorem d_B_init_90 : decode b_B_init 90 = .ok (.aload_n 0, 1) := by decide +kernel
theorem d_B_init_91 : decode b_B_init 91 = .ok (.invokevirtual 54, 3) := by decide +kernel
theorem d_B_init_94 : decode b_B_init 94 = .ok (.return_, 1) := by decide +kernel
theorem d_B_crossing_0 : decode b_B_crossing 0 = .ok (.iload_n 1, 1) := by decide +kernel
theorem d_B_crossing_1 : decode b_B_crossing 1 = .ok (.iconst 1, 1) := by decide +kernel
theorem d_B_crossing_2 : decode b_B_crossing 2 = .ok (.if_icmp .eq 10, 3) := by decide +kernel
theorem d_B_crossing_5 : decode b_B_crossing 5 = .ok (.iload_n 1, 1) := by decide +kernel
theorem d_B_crossing_6 : decode b_B_crossing 6 = .ok (.iconst (-1), 1) := by decide +kernel
theorem d_B_crossing_7 : decode b_B_crossing 7 = .ok (.if_icmp .eq 5, 3) := by decide +kernel
theorem d_B_crossing_10 : decode b_B_crossing 10 = .ok (.iconst (-1), 1) := by decide +kernel
theorem d_B_crossing_11 : decode b_B_crossing 11 = .ok (.ireturn, 1) := by decide +kernel
theorem d_B_crossing_12 : decode b_B_crossing 12 = .ok (.iload_n 2, 1) := by decide +kernel
theorem d_B_crossing_13 : decode b_B_crossing 13 = .ok (.invokestatic 57, 3) := by decide +kernel
theorem d_B_crossing_16 : decode b_B_crossing 16 = .ok (.ifCond .eq 26, 3) := by decide +kernel
theorem d_B_crossing_19 : decode b_B_crossing 19 = .ok (.iload_n 3, 1) := by decide +kernel
theorem d_B_crossing_20 : decode b_B_crossing 20 = .ok (.invokestatic 57, 3) := by decide +kernel
theorem d_B_crossing_23 : decode b_B_crossing 23 = .ok (.ifCond .eq 19, 3) := by decide +kernel
theorem d_B_crossing_26 : decode b_B_crossing 26 = .ok (.iload 4, 2) := by decide +kernel
theorem d_B_crossing_28 : decode b_B_crossing 28 = .ok (.invokestatic 57, 3) := by decide +kernel
theorem d_B_crossing_31 : decode b_B_crossing 31 = .ok (.ifCond .eq 11, 3) := by decide +kernel
theorem d_B_crossing_34 : decode b_B_crossing 34 = .ok (.iload 5, 2) := by decide +kernel
theorem d_B_crossing_36 : decode b_B_crossing 36 = .ok (.invokestatic 57, 3) := by decide +kernel
theorem d_B_crossing_39 : decode b_B_crossing 39 = .ok (.ifCond .ne 5, 3) := by decide +kernel
theorem d_B_crossing_42 : decode b_B_crossing 42 = .ok (.iconst (-1), 1) := by decide +kernel
theorem d_B_crossing_43 : decode b_B_crossing 43 = .ok (.ireturn, 1) := by decide +kernel
theorem d_B_crossing_44 : decode b_B_crossing 44 = .ok (.aload_n 0, 1) := by decide +kernel
theorem d_B_crossing_45 : decode b_B_crossing 45 = .ok (.getfield 16, 3) := by decide +kernel
theorem d_B_crossing_48 : decode b_B_crossing 48 = .ok (.bipush 10, 2) := by decide +kernel
theorem d_B_crossing_50 : decode b_B_crossing 50 = .ok (.if_icmp .lt 5, 3) := by decide +kernel
theorem d_B_crossing_53 : decode b_B_crossing 53 = .ok (.iconst (-1), 1) := by decide +kernel
theorem d_B_crossing_54 : decode b_B_crossing 54 = .ok (.ireturn, 1) := by decide +kernel
theorem d_B_crossing_55 : decode b_B_crossing 55 = .ok (.iconst 4, 1) := by decide +kernel
theorem d_B_crossing_56 : decode b_B_crossing 56 = .ok (.aload_n 0, 1) := by decide +kernel
theorem d_B_crossing_57 : decode b_B_crossing 57 = .ok (.getfield 16, 3) := by decide +kernel
theorem d_B_crossing_60 : decode b_B_crossing 60 = .ok (.imul, 1) := by decide +kernel
theorem d_B_crossing_61 : decode b_B_crossing 61 = .ok (.istore 6, 2) := by decide +kernel
theorem d_B_crossing_63 : decode b_B_crossing 63 = .ok (.aload_n 0, 1) := by decide +kernel
theorem d_B_crossing_64 : decode b_B_crossing 64 = .ok (.getfield 9, 3) := by decide +kernel
theorem d_B_crossing_67 : decode b_B_crossing 67 = .ok (.iload 6, 2) := by decide +kernel
theorem d_B_crossing_69 : decode b_B_crossing 69 = .ok (.iload_n 2, 1) := by decide +kernel
theorem d_B_crossing_70 : decode b_B_crossing 70 = .ok (.iastore, 1) := by decide +kernel
theorem d_B_crossing_71 : decode b_B_crossing 71 = .ok (.aload_n 0, 1) := by decide +kernel
theorem d_B_crossing_72 : decode b_B_crossing 72 = .ok (.getfield 9, 3) := by decide +kernel
theorem d_B_crossing_75 : decode b_B_crossing 75 = .ok (.iload 6, 2) := by decide +kernel
theorem d_B_crossing_77 : decode b_B_crossing 77 = .ok (.iconst 1, 1) := by decide +kernel
theorem d_B_crossing_78 : decode b_B_crossing 78 = .ok (.iadd, 1) := by decide +kernel
theorem d_B_crossing_79 : decode b_B_crossing 79 = .ok (.iload_n 3, 1) := by decide +kernel
theorem d_B_crossing_80 : decode b_B_crossing 80 = .ok (.iastore, 1) := by decide +kernel
theorem d_B_crossing_81 : decode b_B_crossing 81 = .ok (.aload_n 0, 1) := by decide +kernel
theorem d_B_crossing_82 : decode b_B_crossing 82 = .ok (.getfield 9, 3) := by decide +kernel
theorem d_B_crossing_85 : decode b_B_crossing 85 = .ok (.iload 6, 2) := by decide +kernel
theorem d_B_crossing_87 : decode b_B_crossing 87 = .ok (.iconst 2, 1) := by decide +kernel
theorem d_B_crossing_88 : decode b_B_crossing 88 = .ok (.iadd, 1) := by decide +kernel
theorem d_B_crossing_89 : decode b_B_crossing 89 = .ok (.iload 4, 2) := by decide +kernel
theorem d_B_crossing_91 : decode b_B_crossing 91 = .ok (.iastore, 1) := by decide +kernel
theorem d_B_crossing_92 : decode b_B_crossing 92 = .ok (.aload_n 0, 1) := by decide +kernel
theorem d_B_crossing_93 : decode b_B_crossing 93 = .ok (.getfield 9, 3) := by decide +kernel
theorem d_B_crossing_96 : decode b_B_crossing 96 = .ok (.iload 6, 2) := by decide +kernel
theorem d_B_crossing_98 : decode b_B_crossing 98 = .ok (.iconst 3, 1) := by decide +kernel
theorem d_B_crossing_99 : decode b_B_crossing 99 = .ok (.iadd, 1) := by decide +kernel
theorem d_B_crossing_100 : decode b_B_crossing 100 = .ok (.iload 5, 2) := by decide +kernel
theorem d_B_crossing_102 : decode b_B_crossing 102 = .ok (.iastore, 1) := by decide +kernel
theorem d_B_crossing_103 : decode b_B_crossing 103 = .ok (.aload_n 0, 1) := by decide +kernel
theorem d_B_crossing_104 : decode b_B_crossing 104 = .ok (.getfield 13, 3) := by decide +kernel
theorem d_B_crossing_107 : decode b_B_crossing 107 = .ok (.aload_n 0, 1) := by decide +kernel
theorem d_B_crossing_108 : decode b_B_crossing 108 = .ok (.getfield 16, 3) := by decide +kernel
theorem d_B_crossing_111 : decode b_B_crossing 111 = .ok (.iload_n 1, 1) := by decide +kernel
theorem d_B_crossing_112 : decode b_B_crossing 112 = .ok (.iastore, 1) := by decide +kernel
theorem d_B_crossing_113 : decode b_B_crossing 113 = .ok (.aload_n 0, 1) := by decide +kernel
theorem d_B_crossing_114 : decode b_B_crossing 114 = .ok (.dup, 1) := by decide +kernel
theorem d_B_crossing_115 : decode b_B_crossing 115 = .ok (.getfield 16, 3) := by decide +kernel
theorem d_B_crossing_118 : decode b_B_crossing 118 = .ok (.iconst 1, 1) := by decide +kernel
theorem d_B_crossing_119 : decode b_B_crossing 119 = .ok (.iadd, 1) := by decide +kernel
theorem d_B_crossing_120 : decode b_B_crossing 120 = .ok (.putfield 16, 3) := by decide +kernel
theorem d_B_crossing_123 : decode b_B_crossing 123 = .ok (.aload_n 0, 1) := by decide +kernel
theorem d_B_crossing_124 : decode b_B_crossing 124 = .ok (.invokevirtual 54, 3) := by decide +kernel
theorem d_B_crossing_127 : decode b_B_crossing 127 = .ok (.aload_n 0, 1) := by decide +kernel
theorem d_B_crossing_128 : decode b_B_crossing 128 = .ok (.getfield 16, 3) := by decide +kernel
theorem d_B_crossing_131 : decode b_B_crossing 131 = .ok (.ireturn, 1) := by decide +kernel
theorem d_B_circles_0 : decode b_B_circles 0 = .ok (.iload_n 1, 1) := by decide +kernel
theorem d_B_circles_1 : decode b_B_circles 1 = .ok (.ifCond .lt 9, 3) := by decide +kernel
theorem d_B_circles_4 : decode b_B_circles 4 = .ok (.iload_n 1, 1) := by decide +kernel
theorem d_B_circles_5 : decode b_B_circles 5 = .ok (.bipush 9, 2) := by decide +kernel
theorem d_B_circles_7 : decode b_B_circles 7 = .ok (.if_icmp .le 5, 3) := by decide +kernel
theorem d_B_circles_10 : decode b_B_circles 10 = .ok (.iconst (-1), 1) := by decide +kernel
theorem d_B_circles_11 : decode b_B_circles 11 = .ok (.ireturn, 1) := by decide +kernel
theorem d_B_circles_12 : decode b_B_circles 12 = .ok (.aload_n 0, 1) := by decide +kernel
theorem d_B_circles_13 : decode b_B_circles 13 = .ok (.getfield 20, 3) := by decide +kernel
theorem d_B_circles_16 : decode b_B_circles 16 = .ok (.istore_n 2, 1) := by decide +kernel
theorem d_B_circles_17 : decode b_B_circles 17 = .ok (.aload_n 0, 1) := by decide +kernel
theorem d_B_circles_18 : decode b_B_circles 18 = .ok (.iload_n 1, 1) := by decide +kernel
theorem d_B_circles_19 : decode b_B_circles 19 = .ok (.putfield 20, 3) := by decide +kernel
theorem d_B_circles_22 : decode b_B_circles 22 = .ok (.aload_n 0, 1) := by decide +kernel
theorem d_B_circles_23 : decode b_B_circles 23 = .ok (.iconst 0, 1) := by decide +kernel
theorem d_B_circles_24 : decode b_B_circles 24 = .ok (.putfield 50, 3) := by decide +kernel
theorem d_B_circles_27 : decode b_B_circles 27 = .ok (.iload_n 2, 1) := by decide +kernel
theorem d_B_circles_28 : decode b_B_circles 28 = .ok (.ireturn, 1) := by decide +kernel
theorem d_B_clear_0 : decode b_B_clear 0 = .ok (.aload_n 0, 1) := by decide +kernel
theorem d_B_clear_1 : decode b_B_clear 1 = .ok (.getfield 16, 3) := by decide +kernel
theorem d_B_clear_4 : decode b_B_clear 4 = .ok (.istore_n 1, 1) := by decide +kernel
theorem d_B_clear_5 : decode b_B_clear 5 = .ok (.aload_n 0, 1) := by decide +kernel
theorem d_B_clear_6 : decode b_B_clear 6 = .ok (.iconst 0, 1) := by decide +kernel
theorem d_B_clear_7 : decode b_B_clear 7 = .ok (.putfield 16, 3) := by decide +kernel
theorem d_B_clear_10 : decode b_B_clear 10 = .ok (.aload_n 0, 1) := by decide +kernel
theorem d_B_clear_11 : decode b_B_clear 11 = .ok (.iconst 0, 1) := by decide +kernel
theorem d_B_clear_12 : decode b_B_clear 12 = .ok (.putfield 20, 3) := by decide +kernel
theorem d_B_clear_15 : decode b_B_clear 15 = .ok (.aload_n 0, 1) := by decide +kernel
theorem d_B_clear_16 : decode b_B_clear 16 = .ok (.invokevirtual 54, 3) := by decide +kernel
theorem d_B_clear_19 : decode b_B_clear 19 = .ok (.iload_n 1, 1) := by decide +kernel
theorem d_B_clear_20 : decode b_B_clear 20 = .ok (.ireturn, 1) := by decide +kernel
theorem d_B_fault_0 : decode b_B_fault 0 = .ok (.aload_n 0, 1) := by decide +kernel
theorem d_B_fault_1 : decode b_B_fault 1 = .ok (.invokevirtual 61, 3) := by decide +kernel
theorem d_B_fault_4 : decode b_B_fault 4 = .ok (.iconst 1, 1) := by decide +kernel
theorem d_B_fault_5 : decode b_B_fault 5 = .ok (.istore_n 1, 1) := by decide +kernel
theorem d_B_fault_6 : decode b_B_fault 6 = .ok (.iload_n 1, 1) := by decide +kernel
theorem d_B_fault_7 : decode b_B_fault 7 = .ok (.bipush 99, 2) := by decide +kernel
theorem d_B_fault_9 : decode b_B_fault 9 = .ok (.if_icmp .gt 30, 3) := by decide +kernel
theorem d_B_fault_12 : decode b_B_fault 12 = .ok (.aload_n 0, 1) := by decide +kernel
theorem d_B_fault_13 : decode b_B_fault 13 = .ok (.getfield 26, 3) := by decide +kernel
theorem d_B_fault_16 : decode b_B_fault 16 = .ok (.iload_n 1, 1) := by decide +kernel
theorem d_B_fault_17 : decode b_B_fault 17 = .ok (.iaload, 1) := by decide +kernel
theorem d_B_fault_18 : decode b_B_fault 18 = .ok (.ifCond .eq 15, 3) := by decide +kernel
theorem d_B_fault_21 : decode b_B_fault 21 = .ok (.aload_n 0, 1) := by decide +kernel
theorem d_B_fault_22 : decode b_B_fault 22 = .ok (.getfield 26, 3) := by decide +kernel
theorem d_B_fault_25 : decode b_B_fault 25 = .ok (.iload_n 1, 1) := by decide +kernel
theorem d_B_fault_26 : decode b_B_fault 26 = .ok (.iaload, 1) := by decide +kernel
theorem d_B_fault_27 : decode b_B_fault 27 = .ok (.iconst 2, 1) := by decide +kernel
theorem d_B_fault_28 : decode b_B_fault 28 = .ok (.if_icmp .eq 5, 3) := by decide +kernel
theorem d_B_fault_31 : decode b_B_fault 31 = .ok (.iload_n 1, 1) := by decide +kernel
theorem d_B_fault_32 : decode b_B_fault 32 = .ok (.ireturn, 1) := by decide +kernel
theorem d_B_fault_33 : decode b_B_fault 33 = .ok (.iinc 1 1, 3) := by decide +kernel
theorem d_B_fault_36 : decode b_B_fault 36 = .ok (.goto (-30), 3) := by decide +kernel
theorem d_B_fault_39 : decode b_B_fault 39 = .ok (.iconst 0, 1) := by decide +kernel
theorem d_B_fault_40 : decode b_B_fault 40 = .ok (.ireturn, 1) := by decide +kernel
theorem d_B_sweep_0 : decode b_B_sweep 0 = .ok (.aload_n 0, 1) := by decide +kernel
theorem d_B_sweep_1 : decode b_B_sweep 1 = .ok (.iload_n 1, 1) := by decide +kernel
theorem d_B_sweep_2 : decode b_B_sweep 2 = .ok (.invokevirtual 64, 3) := by decide +kernel
theorem d_B_sweep_5 : decode b_B_sweep 5 = .ok (.ifCond .eq 10, 3) := by decide +kernel
theorem d_B_sweep_8 : decode b_B_sweep 8 = .ok (.aload_n 0, 1) := by decide +kernel
theorem d_B_sweep_9 : decode b_B_sweep 9 = .ok (.invokevirtual 67, 3) := by decide +kernel
theorem d_B_sweep_12 : decode b_B_sweep 12 = .ok (.ifCond .ne 5, 3) := by decide +kernel
theorem d_B_sweep_15 : decode b_B_sweep 15 = .ok (.iconst (-1), 1) := by decide +kernel
theorem d_B_sweep_16 : decode b_B_sweep 16 = .ok (.ireturn, 1) := by decide +kernel
theorem d_B_sweep_17 : decode b_B_sweep 17 = .ok (.aload_n 0, 1) := by decide +kernel
theorem d_B_sweep_18 : decode b_B_sweep 18 = .ok (.invokevirtual 71, 3) := by decide +kernel
theorem d_B_sweep_21 : decode b_B_sweep 21 = .ok (.iconst 0, 1) := by decide +kernel
theorem d_B_sweep_22 : decode b_B_sweep 22 = .ok (.istore_n 2, 1) := by decide +kernel
theorem d_B_sweep_23 : decode b_B_sweep 23 = .ok (.iconst 0, 1) := by decide +kernel
theorem d_B_sweep_24 : decode b_B_sweep 24 = .ok (.istore_n 3, 1) := by decide +kernel
theorem d_B_sweep_25 : decode b_B_sweep 25 = .ok (.iconst 0, 1) := by decide +kernel
theorem d_B_sweep_26 : decode b_B_sweep 26 = .ok (.istore 4, 2) := by decide +kernel
theorem d_B_sweep_28 : decode b_B_sweep 28 = .ok (.iload 4, 2) := by decide +kernel
theorem d_B_sweep_30 : decode b_B_sweep 30 = .ok (.aload_n 0, 1) := by decide +kernel
theorem d_B_sweep_31 : decode b_B_sweep 31 = .ok (.getfield 16, 3) := by decide +kernel
theorem d_B_sweep_34 : decode b_B_sweep 34 = .ok (.if_icmp .ge 48, 3) := by decide +kernel
theorem d_B_sweep_37 : decode b_B_sweep 37 = .ok (.iload 4, 2) := by decide +kernel
theorem d_B_sweep_39 : decode b_B_sweep 39 = .ok (.ifCond .ne 7, 3) := by decide +kernel
theorem d_B_sweep_42 : decode b_B_sweep 42 = .ok (.iload_n 1, 1) := by decide +kernel
theorem d_B_sweep_43 : decode b_B_sweep 43 = .ok (.goto 7, 3) := by decide +kernel
theorem d_B_sweep_46 : decode b_B_sweep 46 = .ok (.aload_n 0, 1) := by decide +kernel
theorem d_B_sweep_47 : decode b_B_sweep 47 = .ok (.invokevirtual 74, 3) := by decide +kernel
theorem d_B_sweep_50 : decode b_B_sweep 50 = .ok (.istore 5, 2) := by decide +kernel
theorem d_B_sweep_52 : decode b_B_sweep 52 = .ok (.iload_n 2, 1) := by decide +kernel
theorem d_B_sweep_53 : decode b_B_sweep 53 = .ok (.aload_n 0, 1) := by decide +kernel
theorem d_B_sweep_54 : decode b_B_sweep 54 = .ok (.iload 5, 2) := by decide +kernel
theorem d_B_sweep_56 : decode b_B_sweep 56 = .ok (.invokevirtual 78, 3) := by decide +kernel
theorem d_B_sweep_59 : decode b_B_sweep 59 = .ok (.iadd, 1) := by decide +kernel
theorem d_B_sweep_60 : decode b_B_sweep 60 = .ok (.istore_n 2, 1) := by decide +kernel
theorem d_B_sweep_61 : decode b_B_sweep 61 = .ok (.iload_n 3, 1) := by decide +kernel
theorem d_B_sweep_62 : decode b_B_sweep 62 = .ok (.iload_n 2, 1) := by decide +kernel
theorem d_B_sweep_63 : decode b_B_sweep 63 = .ok (.invokestatic 82, 3) := by decide +kernel
theorem d_B_sweep_66 : decode b_B_sweep 66 = .ok (.istore_n 3, 1) := by decide +kernel
theorem d_B_sweep_67 : decode b_B_sweep 67 = .ok (.aload_n 0, 1) := by decide +kernel
theorem d_B_sweep_68 : decode b_B_sweep 68 = .ok (.getfield 23, 3) := by decide +kernel
theorem d_B_sweep_71 : decode b_B_sweep 71 = .ok (.iload 4, 2) := by decide +kernel
theorem d_B_sweep_73 : decode b_B_sweep 73 = .ok (.iload 5, 2) := by decide +kernel
theorem d_B_sweep_75 : decode b_B_sweep 75 = .ok (.iastore, 1) := by decide +kernel
theorem d_B_sweep_76 : decode b_B_sweep 76 = .ok (.iinc 4 1, 3) := by decide +kernel
theorem d_B_sweep_79 : decode b_B_sweep 79 = .ok (.goto (-51), 3) := by decide +kernel
theorem d_B_sweep_82 : decode b_B_sweep 82 = .ok (.aload_n 0, 1) := by decide +kernel
theorem d_B_sweep_83 : decode b_B_sweep 83 = .ok (.iconst 0, 1) := by decide +kernel
theorem d_B_sweep_84 : decode b_B_sweep 84 = .ok (.putfield 50, 3) := by decide +kernel
theorem d_B_sweep_87 : decode b_B_sweep 87 = .ok (.iload_n 3, 1) := by decide +kernel
theorem d_B_sweep_88 : decode b_B_sweep 88 = .ok (.ireturn, 1) := by decide +kernel
theorem d_B_bracket_0 : decode b_B_bracket 0 = .ok (.aload_n 0, 1) := by decide +kernel
theorem d_B_bracket_1 : decode b_B_bracket 1 = .ok (.invokevirtual 88, 3) := by decide +kernel
theorem d_B_bracket_4 : decode b_B_bracket 4 = .ok (.aload_n 0, 1) := by decide +kernel
theorem d_B_bracket_5 : decode b_B_bracket 5 = .ok (.getfield 46, 3) := by decide +kernel
theorem d_B_bracket_8 : decode b_B_bracket 8 = .ok (.iload_n 1, 1) := by decide +kernel
theorem d_B_bracket_9 : decode b_B_bracket 9 = .ok (.i2l, 1) := by decide +kernel
theorem d_B_bracket_10 : decode b_B_bracket 10 = .ok (.invokevirtual 91, 3) := by decide +kernel
theorem d_B_bracket_13 : decode b_B_bracket 13 = .ok (.lreturn, 1) := by decide +kernel
theorem d_B_jones_0 : decode b_B_jones 0 = .ok (.aload_n 0, 1) := by decide +kernel
theorem d_B_jones_1 : decode b_B_jones 1 = .ok (.invokevirtual 88, 3) := by decide +kernel
theorem d_B_jones_4 : decode b_B_jones 4 = .ok (.aload_n 0, 1) := by decide +kernel
theorem d_B_jones_5 : decode b_B_jones 5 = .ok (.invokevirtual 95, 3) := by decide +kernel
theorem d_B_jones_8 : decode b_B_jones 8 = .ok (.istore_n 2, 1) := by decide +kernel
theorem d_B_jones_9 : decode b_B_jones 9 = .ok (.aload_n 0, 1) := by decide +kernel
theorem d_B_jones_10 : decode b_B_jones 10 = .ok (.getfield 46, 3) := by decide +kernel
theorem d_B_jones_13 : decode b_B_jones 13 = .ok (.iload_n 1, 1) := by decide +kernel
theorem d_B_jones_14 : decode b_B_jones 14 = .ok (.i2l, 1) := by decide +kernel
theorem d_B_jones_15 : decode b_B_jones 15 = .ok (.ldc2_w 98, 3) := by decide +kernel
theorem d_B_jones_18 : decode b_B_jones 18 = .ok (.iload_n 2, 1) := by decide +kernel
theorem d_B_jones_19 : decode b_B_jones 19 = .ok (.i2l, 1) := by decide +kernel
theorem d_B_jones_20 : decode b_B_jones 20 = .ok (.lmul, 1) := by decide +kernel
theorem d_B_jones_21 : decode b_B_jones 21 = .ok (.ladd, 1) := by decide +kernel
theorem d_B_jones_22 : decode b_B_jones 22 = .ok (.invokevirtual 91, 3) := by decide +kernel
theorem d_B_jones_25 : decode b_B_jones 25 = .ok (.lstore_n 3, 1) := by decide +kernel
theorem d_B_jones_26 : decode b_B_jones 26 = .ok (.iload_n 2, 1) := by decide +kernel
theorem d_B_jones_27 : decode b_B_jones 27 = .ok (.iconst 1, 1) := by decide +kernel
theorem d_B_jones_28 : decode b_B_jones 28 = .ok (.iand, 1) := by decide +kernel
theorem d_B_jones_29 : decode b_B_jones 29 = .ok (.ifCond .ne 7, 3) := by decide +kernel
theorem d_B_jones_32 : decode b_B_jones 32 = .ok (.lload_n 3, 1) := by decide +kernel
theorem d_B_jones_33 : decode b_B_jones 33 = .ok (.goto 5, 3) := by decide +kernel
theorem d_B_jones_36 : decode b_B_jones 36 = .ok (.lload_n 3, 1) := by decide +kernel
theorem d_B_jones_37 : decode b_B_jones 37 = .ok (.lneg, 1) := by decide +kernel
theorem d_B_jones_38 : decode b_B_jones 38 = .ok (.lreturn, 1) := by decide +kernel
theorem d_B_span_0 : decode b_B_span 0 = .ok (.aload_n 0, 1) := by decide +kernel
theorem d_B_span_1 : decode b_B_span 1 = .ok (.invokevirtual 88, 3) := by decide +kernel
theorem d_B_span_4 : decode b_B_span 4 = .ok (.aload_n 0, 1) := by decide +kernel
theorem d_B_span_5 : decode b_B_span 5 = .ok (.getfield 46, 3) := by decide +kernel
theorem d_B_span_8 : decode b_B_span 8 = .ok (.invokevirtual 100, 3) := by decide +kernel
theorem d_B_span_11 : decode b_B_span 11 = .ok (.ifCond .eq 5, 3) := by decide +kernel
theorem d_B_span_14 : decode b_B_span 14 = .ok (.iconst 0, 1) := by decide +kernel
theorem d_B_span_15 : decode b_B_span 15 = .ok (.ireturn, 1) := by decide +kernel
theorem d_B_span_16 : decode b_B_span 16 = .ok (.iload_n 2, 1) := by decide +kernel
theorem d_B_span_17 : decode b_B_span 17 = .ok (.ifCond .eq 13, 3) := by decide +kernel
theorem d_B_span_20 : decode b_B_span 20 = .ok (.aload_n 0, 1) := by decide +kernel
theorem d_B_span_21 : decode b_B_span 21 = .ok (.getfield 46, 3) := by decide +kernel
theorem d_B_span_24 : decode b_B_span 24 = .ok (.invokevirtual 103, 3) := by decide +kernel
theorem d_B_span_27 : decode b_B_span 27 = .ok (.goto 10, 3) := by decide +kernel
theorem d_B_span_30 : decode b_B_span 30 = .ok (.aload_n 0, 1) := by decide +kernel
theorem d_B_span_31 : decode b_B_span 31 = .ok (.getfield 46, 3) := by decide +kernel
theorem d_B_span_34 : decode b_B_span 34 = .ok (.invokevirtual 106, 3) := by decide +kernel
theorem d_B_span_37 : decode b_B_span 37 = .ok (.istore_n 3, 1) := by decide +kernel
theorem d_B_span_38 : decode b_B_span 38 = .ok (.iload_n 1, 1) := by decide +kernel
theorem d_B_span_39 : decode b_B_span 39 = .ok (.ifCond .eq 14, 3) := by decide +kernel
theorem d_B_span_42 : decode b_B_span 42 = .ok (.iload_n 3, 1) := by decide +kernel
theorem d_B_span_43 : decode b_B_span 43 = .ok (.iconst 3, 1) := by decide +kernel
theorem d_B_span_44 : decode b_B_span 44 = .ok (.aload_n 0, 1) := by decide +kernel
theorem d_B_span_45 : decode b_B_span 45 = .ok (.invokevirtual 95, 3) := by decide +kernel
theorem d_B_span_48 : decode b_B_span 48 = .ok (.imul, 1) := by decide +kernel
theorem d_B_span_49 : decode b_B_span 49 = .ok (.isub, 1) := by decide +kernel
theorem d_B_span_50 : decode b_B_span 50 = .ok (.goto 4, 3) := by decide +kernel
theorem d_B_span_53 : decode b_B_span 53 = .ok (.iload_n 3, 1) := by decide +kernel
theorem d_B_span_54 : decode b_B_span 54 = .ok (.ireturn, 1) := by decide +kernel
theorem d_B_state_0 : decode b_B_state 0 = .ok (.iload_n 1, 1) := by decide +kernel
theorem d_B_state_1 : decode b_B_state 1 = .ok (.ifCond .lt 20, 3) := by decide +kernel
theorem d_B_state_4 : decode b_B_state 4 = .ok (.iload_n 1, 1) := by decide +kernel
theorem d_B_state_5 : decode b_B_state 5 = .ok (.iconst 1, 1) := by decide +kernel
theorem d_B_state_6 : decode b_B_state 6 = .ok (.aload_n 0, 1) := by decide +kernel
theorem d_B_state_7 : decode b_B_state 7 = .ok (.getfield 16, 3) := by decide +kernel
theorem d_B_state_10 : decode b_B_state 10 = .ok (.ishl, 1) := by decide +kernel
theorem d_B_state_11 : decode b_B_state 11 = .ok (.if_icmp .ge 10, 3) := by decide +kernel
theorem d_B_state_14 : decode b_B_state 14 = .ok (.aload_n 0, 1) := by decide +kernel
theorem d_B_state_15 : decode b_B_state 15 = .ok (.invokevirtual 67, 3) := by decide +kernel
theorem d_B_state_18 : decode b_B_state 18 = .ok (.ifCond .ne 5, 3) := by decide +kernel
theorem d_B_state_21 : decode b_B_state 21 = .ok (.iconst (-1), 1) := by decide +kernel
theorem d_B_state_22 : decode b_B_state 22 = .ok (.ireturn, 1) := by decide +kernel
theorem d_B_state_23 : decode b_B_state 23 = .ok (.aload_n 0, 1) := by decide +kernel
theorem d_B_state_24 : decode b_B_state 24 = .ok (.getfield 39, 3) := by decide +kernel
theorem d_B_state_27 : decode b_B_state 27 = .ok (.aload_n 0, 1) := by decide +kernel
theorem d_B_state_28 : decode b_B_state 28 = .ok (.getfield 9, 3) := by decide +kernel
theorem d_B_state_31 : decode b_B_state 31 = .ok (.iconst 4, 1) := by decide +kernel
theorem d_B_state_32 : decode b_B_state 32 = .ok (.aload_n 0, 1) := by decide +kernel
theorem d_B_state_33 : decode b_B_state 33 = .ok (.getfield 16, 3) := by decide +kernel
theorem d_B_state_36 : decode b_B_state 36 = .ok (.imul, 1) := by decide +kernel
theorem d_B_state_37 : decode b_B_state 37 = .ok (.invokevirtual 109, 3) := by decide +kernel
theorem d_B_state_40 : decode b_B_state 40 = .ok (.aload_n 0, 1) := by decide +kernel
theorem d_B_state_41 : decode b_B_state 41 = .ok (.getfield 20, 3) := by decide +kernel
theorem d_B_state_44 : decode b_B_state 44 = .ok (.istore_n 2, 1) := by decide +kernel
theorem d_B_state_45 : decode b_B_state 45 = .ok (.iconst 0, 1) := by decide +kernel
theorem d_B_state_46 : decode b_B_state 46 = .ok (.istore_n 3, 1) := by decide +kernel
theorem d_B_state_47 : decode b_B_state 47 = .ok (.iload_n 3, 1) := by decide +kernel
theorem d_B_state_48 : decode b_B_state 48 = .ok (.aload_n 0, 1) := by decide +kernel
theorem d_B_state_49 : decode b_B_state 49 = .ok (.getfield 16, 3) := by decide +kernel
theorem d_B_state_52 : decode b_B_state 52 = .ok (.if_icmp .ge 37, 3) := by decide +kernel
theorem d_B_state_55 : decode b_B_state 55 = .ok (.iload_n 1, 1) := by decide +kernel
theorem d_B_state_56 : decode b_B_state 56 = .ok (.iload_n 3, 1) := by decide +kernel
theorem d_B_state_57 : decode b_B_state 57 = .ok (.ishr, 1) := by decide +kernel
theorem d_B_state_58 : decode b_B_state 58 = .ok (.iconst 1, 1) := by decide +kernel
theorem d_B_state_59 : decode b_B_state 59 = .ok (.iand, 1) := by decide +kernel
theorem d_B_state_60 : decode b_B_state 60 = .ok (.ifCond .ne 7, 3) := by decide +kernel
theorem d_B_state_63 : decode b_B_state 63 = .ok (.iconst 1, 1) := by decide +kernel
theorem d_B_state_64 : decode b_B_state 64 = .ok (.goto 4, 3) := by decide +kernel
theorem d_B_state_67 : decode b_B_state 67 = .ok (.iconst 0, 1) := by decide +kernel
theorem d_B_state_68 : decode b_B_state 68 = .ok (.istore 4, 2) := by decide +kernel
theorem d_B_state_70 : decode b_B_state 70 = .ok (.iload_n 2, 1) := by decide +kernel
theorem d_B_state_71 : decode b_B_state 71 = .ok (.aload_n 0, 1) := by decide +kernel
theorem d_B_state_72 : decode b_B_state 72 = .ok (.getfield 39, 3) := by decide +kernel
theorem d_B_state_75 : decode b_B_state 75 = .ok (.iload_n 3, 1) := by decide +kernel
theorem d_B_state_76 : decode b_B_state 76 = .ok (.iload 4, 2) := by decide +kernel
theorem d_B_state_78 : decode b_B_state 78 = .ok (.invokevirtual 113, 3) := by decide +kernel
theorem d_B_state_81 : decode b_B_state 81 = .ok (.iadd, 1) := by decide +kernel
theorem d_B_state_82 : decode b_B_state 82 = .ok (.istore_n 2, 1) := by decide +kernel
theorem d_B_state_83 : decode b_B_state 83 = .ok (.iinc 3 1, 3) := by decide +kernel
theorem d_B_state_86 : decode b_B_state 86 = .ok (.goto (-39), 3) := by decide +kernel
theorem d_B_state_89 : decode b_B_state 89 = .ok (.iload_n 2, 1) := by decide +kernel
theorem d_B_state_90 : decode b_B_state 90 = .ok (.ireturn, 1) := by decide +kernel
theorem d_B_look_0 : decode b_B_look 0 = .ok (.iload_n 1, 1) := by decide +kernel
theorem d_B_look_1 : decode b_B_look 1 = .ok (.iconst (-1), 1) := by decide +kernel
theorem d_B_look_2 : decode b_B_look 2 = .ok (.if_icmp .ne 9, 3) := by decide +kernel
theorem d_B_look_5 : decode b_B_look 5 = .ok (.aload_n 0, 1) := by decide +kernel
theorem d_B_look_6 : decode b_B_look 6 = .ok (.iload_n 2, 1) := by decide +kernel
theorem d_B_look_7 : decode b_B_look 7 = .ok (.invokevirtual 117, 3) := by decide +kernel
theorem d_B_look_10 : decode b_B_look 10 = .ok (.ireturn, 1) := by decide +kernel
theorem d_B_look_11 : decode b_B_look 11 = .ok (.aload_n 0, 1) := by decide +kernel
theorem d_B_look_12 : decode b_B_look 12 = .ok (.iload_n 1, 1) := by decide +kernel
theorem d_B_look_13 : decode b_B_look 13 = .ok (.invokevirtual 64, 3) := by decide +kernel
theorem d_B_look_16 : decode b_B_look 16 = .ok (.ifCond .ne 7, 3) := by decide +kernel
theorem d_B_look_19 : decode b_B_look 19 = .ok (.sipush (-1000), 3) := by decide +kernel
theorem d_B_look_22 : decode b_B_look 22 = .ok (.ireturn, 1) := by decide +kernel
theorem d_B_look_23 : decode b_B_look 23 = .ok (.iload_n 2, 1) := by decide +kernel
theorem d_B_look_24 : decode b_B_look 24 = .ok (.ifCond .lt 19, 3) := by decide +kernel
theorem d_B_look_27 : decode b_B_look 27 = .ok (.iload_n 2, 1) := by decide +kernel
theorem d_B_look_28 : decode b_B_look 28 = .ok (.iconst 4, 1) := by decide +kernel
theorem d_B_look_29 : decode b_B_look 29 = .ok (.if_icmp .ge 14, 3) := by decide +kernel
theorem d_B_look_32 : decode b_B_look 32 = .ok (.aload_n 0, 1) := by decide +kernel
theorem d_B_look_33 : decode b_B_look 33 = .ok (.getfield 9, 3) := by decide +kernel
theorem d_B_look_36 : decode b_B_look 36 = .ok (.iconst 4, 1) := by decide +kernel
theorem d_B_look_37 : decode b_B_look 37 = .ok (.iload_n 1, 1) := by decide +kernel
theorem d_B_look_38 : decode b_B_look 38 = .ok (.imul, 1) := by decide +kernel
theorem d_B_look_39 : decode b_B_look 39 = .ok (.iload_n 2, 1) := by decide +kernel
theorem d_B_look_40 : decode b_B_look 40 = .ok (.iadd, 1) := by decide +kernel
theorem d_B_look_41 : decode b_B_look 41 = .ok (.iaload, 1) := by decide +kernel
theorem d_B_look_42 : decode b_B_look 42 = .ok (.ireturn, 1) := by decide +kernel
theorem d_B_look_43 : decode b_B_look 43 = .ok (.iload_n 2, 1) := by decide +kernel
theorem d_B_look_44 : decode b_B_look 44 = .ok (.iconst 4, 1) := by decide +kernel
theorem d_B_look_45 : decode b_B_look 45 = .ok (.if_icmp .ne 12, 3) := by decide +kernel
theorem d_B_look_48 : decode b_B_look 48 = .ok (.aload_n 0, 1) := by decide +kernel
theorem d_B_look_49 : decode b_B_look 49 = .ok (.getfield 13, 3) := by decide +kernel
theorem d_B_look_52 : decode b_B_look 52 = .ok (.iload_n 1, 1) := by decide +kernel
theorem d_B_look_53 : decode b_B_look 53 = .ok (.iaload, 1) := by decide +kernel
theorem d_B_look_54 : decode b_B_look 54 = .ok (.goto 6, 3) := by decide +kernel
theorem d_B_look_57 : decode b_B_look 57 = .ok (.sipush (-1000), 3) := by decide +kernel
theorem d_B_look_60 : decode b_B_look 60 = .ok (.ireturn, 1) := by decide +kernel
theorem d_B_resolve_0 : decode b_B_resolve 0 = .ok (.aload_n 0, 1) := by decide +kernel
theorem d_B_resolve_1 : decode b_B_resolve 1 = .ok (.iload_n 1, 1) := by decide +kernel
theorem d_B_resolve_2 : decode b_B_resolve 2 = .ok (.invokevirtual 64, 3) := by decide +kernel
theorem d_B_resolve_5 : decode b_B_resolve 5 = .ok (.ifCond .eq 10, 3) := by decide +kernel
theorem d_B_resolve_8 : decode b_B_resolve 8 = .ok (.aload_n 0, 1) := by decide +kernel
theorem d_B_resolve_9 : decode b_B_resolve 9 = .ok (.invokevirtual 67, 3) := by decide +kernel
theorem d_B_resolve_12 : decode b_B_resolve 12 = .ok (.ifCond .ne 5, 3) := by decide +kernel
theorem d_B_resolve_15 : decode b_B_resolve 15 = .ok (.iconst 0, 1) := by decide +kernel
theorem d_B_resolve_16 : decode b_B_resolve 16 = .ok (.ireturn, 1) := by decide +kernel
theorem d_B_resolve_17 : decode b_B_resolve 17 = .ok (.iconst 4, 1) := by decide +kernel
theorem d_B_resolve_18 : decode b_B_resolve 18 = .ok (.iload_n 1, 1) := by decide +kernel
theorem d_B_resolve_19 : decode b_B_resolve 19 = .ok (.imul, 1) := by decide +kernel
theorem d_B_resolve_20 : decode b_B_resolve 20 = .ok (.istore_n 3, 1) := by decide +kernel
theorem d_B_resolve_21 : decode b_B_resolve 21 = .ok (.iload_n 2, 1) := by decide +kernel
theorem d_B_resolve_22 : decode b_B_resolve 22 = .ok (.ifCond .eq 7, 3) := by decide +kernel
theorem d_B_resolve_25 : decode b_B_resolve 25 = .ok (.iconst 0, 1) := by decide +kernel
theorem d_B_resolve_26 : decode b_B_resolve 26 = .ok (.goto 4, 3) := by decide +kernel
theorem d_B_resolve_29 : decode b_B_resolve 29 = .ok (.iconst 1, 1) := by decide +kernel
theorem d_B_resolve_30 : decode b_B_resolve 30 = .ok (.istore 4, 2) := by decide +kernel
end
section
theorem d_B_resolve_32 : decode b_B_resolve 32 = .ok (.aload_n 0, 1) := by decide +kernel
theorem d_B_resolve_33 : decode b_B_resolve 33 = .ok (.getfield 9, 3) := by decide +kernel
theorem d_B_resolve_36 : decode b_B_resolve 36 = .ok (.iload_n 3, 1) := by decide +kernel
theorem d_B_resolve_37 : decode b_B_resolve 37 = .ok (.iload 4, 2) := by decide +kernel
theorem d_B_resolve_39 : decode b_B_resolve 39 = .ok (.iadd, 1) := by decide +kernel
theorem d_B_resolve_40 : decode b_B_resolve 40 = .ok (.iaload, 1) := by decide +kernel
theorem d_B_resolve_41 : decode b_B_resolve 41 = .ok (.istore 5, 2) := by decide +kernel
theorem d_B_resolve_43 : decode b_B_resolve 43 = .ok (.aload_n 0, 1) := by decide +kernel
theorem d_B_resolve_44 : decode b_B_resolve 44 = .ok (.getfield 9, 3) := by decide +kernel
theorem d_B_resolve_47 : decode b_B_resolve 47 = .ok (.iload_n 3, 1) := by decide +kernel
theorem d_B_resolve_48 : decode b_B_resolve 48 = .ok (.iload 4, 2) := by decide +kernel
theorem d_B_resolve_50 : decode b_B_resolve 50 = .ok (.iadd, 1) := by decide +kernel
theorem d_B_resolve_51 : decode b_B_resolve 51 = .ok (.iconst 1, 1) := by decide +kernel
theorem d_B_resolve_52 : decode b_B_resolve 52 = .ok (.iadd, 1) := by decide +kernel
theorem d_B_resolve_53 : decode b_B_resolve 53 = .ok (.iaload, 1) := by decide +kernel
theorem d_B_resolve_54 : decode b_B_resolve 54 = .ok (.istore 6, 2) := by decide +kernel
theorem d_B_resolve_56 : decode b_B_resolve 56 = .ok (.aload_n 0, 1) := by decide +kernel
theorem d_B_resolve_57 : decode b_B_resolve 57 = .ok (.getfield 9, 3) := by decide +kernel
theorem d_B_resolve_60 : decode b_B_resolve 60 = .ok (.iload_n 3, 1) := by decide +kernel
theorem d_B_resolve_61 : decode b_B_resolve 61 = .ok (.iload 4, 2) := by decide +kernel
theorem d_B_resolve_63 : decode b_B_resolve 63 = .ok (.iadd, 1) := by decide +kernel
theorem d_B_resolve_64 : decode b_B_resolve 64 = .ok (.iconst 2, 1) := by decide +kernel
theorem d_B_resolve_65 : decode b_B_resolve 65 = .ok (.iadd, 1) := by decide +kernel
theorem d_B_resolve_66 : decode b_B_resolve 66 = .ok (.iaload, 1) := by decide +kernel
theorem d_B_resolve_67 : decode b_B_resolve 67 = .ok (.iload 5, 2) := by decide +kernel
theorem d_B_resolve_69 : decode b_B_resolve 69 = .ok (.iload 6, 2) := by decide +kernel
theorem d_B_resolve_71 : decode b_B_resolve 71 = .ok (.invokestatic 120, 3) := by decide +kernel
theorem d_B_resolve_74 : decode b_B_resolve 74 = .ok (.istore 7, 2) := by decide +kernel
theorem d_B_resolve_76 : decode b_B_resolve 76 = .ok (.aload_n 0, 1) := by decide +kernel
theorem d_B_resolve_77 : decode b_B_resolve 77 = .ok (.getfield 9, 3) := by decide +kernel
theorem d_B_resolve_80 : decode b_B_resolve 80 = .ok (.iload_n 3, 1) := by decide +kernel
theorem d_B_resolve_81 : decode b_B_resolve 81 = .ok (.iload 4, 2) := by decide +kernel
theorem d_B_resolve_83 : decode b_B_resolve 83 = .ok (.iconst 3, 1) := by decide +kernel
theorem d_B_resolve_84 : decode b_B_resolve 84 = .ok (.iadd, 1) := by decide +kernel
theorem d_B_resolve_85 : decode b_B_resolve 85 = .ok (.iconst 4, 1) := by decide +kernel
theorem d_B_resolve_86 : decode b_B_resolve 86 = .ok (.irem, 1) := by decide +kernel
theorem d_B_resolve_87 : decode b_B_resolve 87 = .ok (.iadd, 1) := by decide +kernel
theorem d_B_resolve_88 : decode b_B_resolve 88 = .ok (.iaload, 1) := by decide +kernel
theorem d_B_resolve_89 : decode b_B_resolve 89 = .ok (.iload 5, 2) := by decide +kernel
theorem d_B_resolve_91 : decode b_B_resolve 91 = .ok (.iload 6, 2) := by decide +kernel
theorem d_B_resolve_93 : decode b_B_resolve 93 = .ok (.invokestatic 120, 3) := by decide +kernel
theorem d_B_resolve_96 : decode b_B_resolve 96 = .ok (.istore 8, 2) := by decide +kernel
theorem d_B_resolve_98 : decode b_B_resolve 98 = .ok (.iload 5, 2) := by decide +kernel
theorem d_B_resolve_100 : decode b_B_resolve 100 = .ok (.iload 6, 2) := by decide +kernel
theorem d_B_resolve_102 : decode b_B_resolve 102 = .ok (.if_icmp .ne 7, 3) := by decide +kernel
theorem d_B_resolve_105 : decode b_B_resolve 105 = .ok (.iconst 1, 1) := by decide +kernel
theorem d_B_resolve_106 : decode b_B_resolve 106 = .ok (.goto 4, 3) := by decide +kernel
theorem d_B_resolve_109 : decode b_B_resolve 109 = .ok (.iconst 0, 1) := by decide +kernel
theorem d_B_resolve_110 : decode b_B_resolve 110 = .ok (.iload 7, 2) := by decide +kernel
theorem d_B_resolve_112 : decode b_B_resolve 112 = .ok (.iload 8, 2) := by decide +kernel
theorem d_B_resolve_114 : decode b_B_resolve 114 = .ok (.if_icmp .ne 7, 3) := by decide +kernel
theorem d_B_resolve_117 : decode b_B_resolve 117 = .ok (.iconst 1, 1) := by decide +kernel
theorem d_B_resolve_118 : decode b_B_resolve 118 = .ok (.goto 4, 3) := by decide +kernel
theorem d_B_resolve_121 : decode b_B_resolve 121 = .ok (.iconst 0, 1) := by decide +kernel
theorem d_B_resolve_122 : decode b_B_resolve 122 = .ok (.iadd, 1) := by decide +kernel
theorem d_B_resolve_123 : decode b_B_resolve 123 = .ok (.istore 9, 2) := by decide +kernel
theorem d_B_resolve_125 : decode b_B_resolve 125 = .ok (.aload_n 0, 1) := by decide +kernel
theorem d_B_resolve_126 : decode b_B_resolve 126 = .ok (.getfield 20, 3) := by decide +kernel
theorem d_B_resolve_129 : decode b_B_resolve 129 = .ok (.iload 9, 2) := by decide +kernel
theorem d_B_resolve_131 : decode b_B_resolve 131 = .ok (.iadd, 1) := by decide +kernel
theorem d_B_resolve_132 : decode b_B_resolve 132 = .ok (.bipush 9, 2) := by decide +kernel
theorem d_B_resolve_134 : decode b_B_resolve 134 = .ok (.if_icmp .le 5, 3) := by decide +kernel
theorem d_B_resolve_137 : decode b_B_resolve 137 = .ok (.iconst 0, 1) := by decide +kernel
theorem d_B_resolve_138 : decode b_B_resolve 138 = .ok (.ireturn, 1) := by decide +kernel
theorem d_B_resolve_139 : decode b_B_resolve 139 = .ok (.aload_n 0, 1) := by decide +kernel
theorem d_B_resolve_140 : decode b_B_resolve 140 = .ok (.iload 5, 2) := by decide +kernel
theorem d_B_resolve_142 : decode b_B_resolve 142 = .ok (.iload 6, 2) := by decide +kernel
theorem d_B_resolve_144 : decode b_B_resolve 144 = .ok (.invokevirtual 124, 3) := by decide +kernel
theorem d_B_resolve_147 : decode b_B_resolve 147 = .ok (.aload_n 0, 1) := by decide +kernel
theorem d_B_resolve_148 : decode b_B_resolve 148 = .ok (.iload 7, 2) := by decide +kernel
theorem d_B_resolve_150 : decode b_B_resolve 150 = .ok (.iload 8, 2) := by decide +kernel
theorem d_B_resolve_152 : decode b_B_resolve 152 = .ok (.invokevirtual 124, 3) := by decide +kernel
theorem d_B_resolve_155 : decode b_B_resolve 155 = .ok (.aload_n 0, 1) := by decide +kernel
theorem d_B_resolve_156 : decode b_B_resolve 156 = .ok (.dup, 1) := by decide +kernel
theorem d_B_resolve_157 : decode b_B_resolve 157 = .ok (.getfield 20, 3) := by decide +kernel
theorem d_B_resolve_160 : decode b_B_resolve 160 = .ok (.iload 9, 2) := by decide +kernel
theorem d_B_resolve_162 : decode b_B_resolve 162 = .ok (.iadd, 1) := by decide +kernel
theorem d_B_resolve_163 : decode b_B_resolve 163 = .ok (.putfield 20, 3) := by decide +kernel
theorem d_B_resolve_166 : decode b_B_resolve 166 = .ok (.aload_n 0, 1) := by decide +kernel
theorem d_B_resolve_167 : decode b_B_resolve 167 = .ok (.iload_n 1, 1) := by decide +kernel
theorem d_B_resolve_168 : decode b_B_resolve 168 = .ok (.aload_n 0, 1) := by decide +kernel
theorem d_B_resolve_169 : decode b_B_resolve 169 = .ok (.getfield 16, 3) := by decide +kernel
theorem d_B_resolve_172 : decode b_B_resolve 172 = .ok (.iconst 1, 1) := by decide +kernel
theorem d_B_resolve_173 : decode b_B_resolve 173 = .ok (.isub, 1) := by decide +kernel
theorem d_B_resolve_174 : decode b_B_resolve 174 = .ok (.invokevirtual 128, 3) := by decide +kernel
theorem d_B_resolve_177 : decode b_B_resolve 177 = .ok (.aload_n 0, 1) := by decide +kernel
theorem d_B_resolve_178 : decode b_B_resolve 178 = .ok (.dup, 1) := by decide +kernel
theorem d_B_resolve_179 : decode b_B_resolve 179 = .ok (.getfield 16, 3) := by decide +kernel
theorem d_B_resolve_182 : decode b_B_resolve 182 = .ok (.iconst 1, 1) := by decide +kernel
theorem d_B_resolve_183 : decode b_B_resolve 183 = .ok (.isub, 1) := by decide +kernel
theorem d_B_resolve_184 : decode b_B_resolve 184 = .ok (.putfield 16, 3) := by decide +kernel
theorem d_B_resolve_187 : decode b_B_resolve 187 = .ok (.aload_n 0, 1) := by decide +kernel
theorem d_B_resolve_188 : decode b_B_resolve 188 = .ok (.invokevirtual 54, 3) := by decide +kernel
theorem d_B_resolve_191 : decode b_B_resolve 191 = .ok (.iconst 1, 1) := by decide +kernel
theorem d_B_resolve_192 : decode b_B_resolve 192 = .ok (.ireturn, 1) := by decide +kernel
theorem d_B_change_0 : decode b_B_change 0 = .ok (.aload_n 0, 1) := by decide +kernel
theorem d_B_change_1 : decode b_B_change 1 = .ok (.iload_n 1, 1) := by decide +kernel
theorem d_B_change_2 : decode b_B_change 2 = .ok (.invokevirtual 64, 3) := by decide +kernel
theorem d_B_change_5 : decode b_B_change 5 = .ok (.ifCond .ne 5, 3) := by decide +kernel
theorem d_B_change_8 : decode b_B_change 8 = .ok (.iconst 0, 1) := by decide +kernel
theorem d_B_change_9 : decode b_B_change 9 = .ok (.ireturn, 1) := by decide +kernel
theorem d_B_change_10 : decode b_B_change 10 = .ok (.iconst 4, 1) := by decide +kernel
theorem d_B_change_11 : decode b_B_change 11 = .ok (.iload_n 1, 1) := by decide +kernel
theorem d_B_change_12 : decode b_B_change 12 = .ok (.imul, 1) := by decide +kernel
theorem d_B_change_13 : decode b_B_change 13 = .ok (.istore_n 2, 1) := by decide +kernel
theorem d_B_change_14 : decode b_B_change 14 = .ok (.aload_n 0, 1) := by decide +kernel
theorem d_B_change_15 : decode b_B_change 15 = .ok (.getfield 9, 3) := by decide +kernel
theorem d_B_change_18 : decode b_B_change 18 = .ok (.iload_n 2, 1) := by decide +kernel
theorem d_B_change_19 : decode b_B_change 19 = .ok (.iaload, 1) := by decide +kernel
theorem d_B_change_20 : decode b_B_change 20 = .ok (.istore_n 3, 1) := by decide +kernel
theorem d_B_change_21 : decode b_B_change 21 = .ok (.aload_n 0, 1) := by decide +kernel
theorem d_B_change_22 : decode b_B_change 22 = .ok (.getfield 9, 3) := by decide +kernel
theorem d_B_change_25 : decode b_B_change 25 = .ok (.iload_n 2, 1) := by decide +kernel
theorem d_B_change_26 : decode b_B_change 26 = .ok (.aload_n 0, 1) := by decide +kernel
theorem d_B_change_27 : decode b_B_change 27 = .ok (.getfield 9, 3) := by decide +kernel
theorem d_B_change_30 : decode b_B_change 30 = .ok (.iload_n 2, 1) := by decide +kernel
theorem d_B_change_31 : decode b_B_change 31 = .ok (.iconst 1, 1) := by decide +kernel
theorem d_B_change_32 : decode b_B_change 32 = .ok (.iadd, 1) := by decide +kernel
theorem d_B_change_33 : decode b_B_change 33 = .ok (.iaload, 1) := by decide +kernel
theorem d_B_change_34 : decode b_B_change 34 = .ok (.iastore, 1) := by decide +kernel
theorem d_B_change_35 : decode b_B_change 35 = .ok (.aload_n 0, 1) := by decide +kernel
theorem d_B_change_36 : decode b_B_change 36 = .ok (.getfield 9, 3) := by decide +kernel
theorem d_B_change_39 : decode b_B_change 39 = .ok (.iload_n 2, 1) := by decide +kernel
theorem d_B_change_40 : decode b_B_change 40 = .ok (.iconst 1, 1) := by decide +kernel
theorem d_B_change_41 : decode b_B_change 41 = .ok (.iadd, 1) := by decide +kernel
theorem d_B_change_42 : decode b_B_change 42 = .ok (.aload_n 0, 1) := by decide +kernel
theorem d_B_change_43 : decode b_B_change 43 = .ok (.getfield 9, 3) := by decide +kernel
theorem d_B_change_46 : decode b_B_change 46 = .ok (.iload_n 2, 1) := by decide +kernel
theorem d_B_change_47 : decode b_B_change 47 = .ok (.iconst 2, 1) := by decide +kernel
theorem d_B_change_48 : decode b_B_change 48 = .ok (.iadd, 1) := by decide +kernel
theorem d_B_change_49 : decode b_B_change 49 = .ok (.iaload, 1) := by decide +kernel
theorem d_B_change_50 : decode b_B_change 50 = .ok (.iastore, 1) := by decide +kernel
theorem d_B_change_51 : decode b_B_change 51 = .ok (.aload_n 0, 1) := by decide +kernel
theorem d_B_change_52 : decode b_B_change 52 = .ok (.getfield 9, 3) := by decide +kernel
theorem d_B_change_55 : decode b_B_change 55 = .ok (.iload_n 2, 1) := by decide +kernel
theorem d_B_change_56 : decode b_B_change 56 = .ok (.iconst 2, 1) := by decide +kernel
theorem d_B_change_57 : decode b_B_change 57 = .ok (.iadd, 1) := by decide +kernel
theorem d_B_change_58 : decode b_B_change 58 = .ok (.aload_n 0, 1) := by decide +kernel
theorem d_B_change_59 : decode b_B_change 59 = .ok (.getfield 9, 3) := by decide +kernel
theorem d_B_change_62 : decode b_B_change 62 = .ok (.iload_n 2, 1) := by decide +kernel
theorem d_B_change_63 : decode b_B_change 63 = .ok (.iconst 3, 1) := by decide +kernel
theorem d_B_change_64 : decode b_B_change 64 = .ok (.iadd, 1) := by decide +kernel
theorem d_B_change_65 : decode b_B_change 65 = .ok (.iaload, 1) := by decide +kernel
theorem d_B_change_66 : decode b_B_change 66 = .ok (.iastore, 1) := by decide +kernel
theorem d_B_change_67 : decode b_B_change 67 = .ok (.aload_n 0, 1) := by decide +kernel
theorem d_B_change_68 : decode b_B_change 68 = .ok (.getfield 9, 3) := by decide +kernel
theorem d_B_change_71 : decode b_B_change 71 = .ok (.iload_n 2, 1) := by decide +kernel
theorem d_B_change_72 : decode b_B_change 72 = .ok (.iconst 3, 1) := by decide +kernel
theorem d_B_change_73 : decode b_B_change 73 = .ok (.iadd, 1) := by decide +kernel
theorem d_B_change_74 : decode b_B_change 74 = .ok (.iload_n 3, 1) := by decide +kernel
theorem d_B_change_75 : decode b_B_change 75 = .ok (.iastore, 1) := by decide +kernel
theorem d_B_change_76 : decode b_B_change 76 = .ok (.aload_n 0, 1) := by decide +kernel
theorem d_B_change_77 : decode b_B_change 77 = .ok (.getfield 13, 3) := by decide +kernel
theorem d_B_change_80 : decode b_B_change 80 = .ok (.iload_n 1, 1) := by decide +kernel
theorem d_B_change_81 : decode b_B_change 81 = .ok (.aload_n 0, 1) := by decide +kernel
theorem d_B_change_82 : decode b_B_change 82 = .ok (.getfield 13, 3) := by decide +kernel
theorem d_B_change_85 : decode b_B_change 85 = .ok (.iload_n 1, 1) := by decide +kernel
theorem d_B_change_86 : decode b_B_change 86 = .ok (.iaload, 1) := by decide +kernel
theorem d_B_change_87 : decode b_B_change 87 = .ok (.ineg, 1) := by decide +kernel
theorem d_B_change_88 : decode b_B_change 88 = .ok (.iastore, 1) := by decide +kernel
theorem d_B_change_89 : decode b_B_change 89 = .ok (.aload_n 0, 1) := by decide +kernel
theorem d_B_change_90 : decode b_B_change 90 = .ok (.invokevirtual 54, 3) := by decide +kernel
theorem d_B_change_93 : decode b_B_change 93 = .ok (.iconst 1, 1) := by decide +kernel
theorem d_B_change_94 : decode b_B_change 94 = .ok (.ireturn, 1) := by decide +kernel
theorem d_B_move_0 : decode b_B_move 0 = .ok (.aload_n 0, 1) := by decide +kernel
theorem d_B_move_1 : decode b_B_move 1 = .ok (.iload_n 1, 1) := by decide +kernel
theorem d_B_move_2 : decode b_B_move 2 = .ok (.invokevirtual 64, 3) := by decide +kernel
theorem d_B_move_5 : decode b_B_move 5 = .ok (.ifCond .eq 11, 3) := by decide +kernel
theorem d_B_move_8 : decode b_B_move 8 = .ok (.aload_n 0, 1) := by decide +kernel
theorem d_B_move_9 : decode b_B_move 9 = .ok (.iload_n 2, 1) := by decide +kernel
theorem d_B_move_10 : decode b_B_move 10 = .ok (.invokevirtual 64, 3) := by decide +kernel
theorem d_B_move_13 : decode b_B_move 13 = .ok (.ifCond .ne 5, 3) := by decide +kernel
theorem d_B_move_16 : decode b_B_move 16 = .ok (.iconst 0, 1) := by decide +kernel
theorem d_B_move_17 : decode b_B_move 17 = .ok (.ireturn, 1) := by decide +kernel
theorem d_B_move_18 : decode b_B_move 18 = .ok (.aload_n 0, 1) := by decide +kernel
theorem d_B_move_19 : decode b_B_move 19 = .ok (.iload_n 1, 1) := by decide +kernel
theorem d_B_move_20 : decode b_B_move 20 = .ok (.iload_n 2, 1) := by decide +kernel
theorem d_B_move_21 : decode b_B_move 21 = .ok (.invokevirtual 128, 3) := by decide +kernel
theorem d_B_move_24 : decode b_B_move 24 = .ok (.aload_n 0, 1) := by decide +kernel
theorem d_B_move_25 : decode b_B_move 25 = .ok (.invokevirtual 54, 3) := by decide +kernel
theorem d_B_move_28 : decode b_B_move 28 = .ok (.iconst 1, 1) := by decide +kernel
theorem d_B_move_29 : decode b_B_move 29 = .ok (.ireturn, 1) := by decide +kernel
theorem d_B_isLabel_0 : decode b_B_isLabel 0 = .ok (.iload_n 0, 1) := by decide +kernel
theorem d_B_isLabel_1 : decode b_B_isLabel 1 = .ok (.iconst 1, 1) := by decide +kernel
theorem d_B_isLabel_2 : decode b_B_isLabel 2 = .ok (.if_icmp .lt 13, 3) := by decide +kernel
theorem d_B_isLabel_5 : decode b_B_isLabel 5 = .ok (.iload_n 0, 1) := by decide +kernel
theorem d_B_isLabel_6 : decode b_B_isLabel 6 = .ok (.bipush 99, 2) := by decide +kernel
theorem d_B_isLabel_8 : decode b_B_isLabel 8 = .ok (.if_icmp .gt 7, 3) := by decide +kernel
theorem d_B_isLabel_11 : decode b_B_isLabel 11 = .ok (.iconst 1, 1) := by decide +kernel
theorem d_B_isLabel_12 : decode b_B_isLabel 12 = .ok (.goto 4, 3) := by decide +kernel
theorem d_B_isLabel_15 : decode b_B_isLabel 15 = .ok (.iconst 0, 1) := by decide +kernel
theorem d_B_isLabel_16 : decode b_B_isLabel 16 = .ok (.ireturn, 1) := by decide +kernel
theorem d_B_isCrossing_0 : decode b_B_isCrossing 0 = .ok (.iload_n 1, 1) := by decide +kernel
theorem d_B_isCrossing_1 : decode b_B_isCrossing 1 = .ok (.ifCond .lt 15, 3) := by decide +kernel
theorem d_B_isCrossing_4 : decode b_B_isCrossing 4 = .ok (.iload_n 1, 1) := by decide +kernel
theorem d_B_isCrossing_5 : decode b_B_isCrossing 5 = .ok (.aload_n 0, 1) := by decide +kernel
theorem d_B_isCrossing_6 : decode b_B_isCrossing 6 = .ok (.getfield 16, 3) := by decide +kernel
theorem d_B_isCrossing_9 : decode b_B_isCrossing 9 = .ok (.if_icmp .ge 7, 3) := by decide +kernel
theorem d_B_isCrossing_12 : decode b_B_isCrossing 12 = .ok (.iconst 1, 1) := by decide +kernel
theorem d_B_isCrossing_13 : decode b_B_isCrossing 13 = .ok (.goto 4, 3) := by decide +kernel
theorem d_B_isCrossing_16 : decode b_B_isCrossing 16 = .ok (.iconst 0, 1) := by decide +kernel
theorem d_B_isCrossing_17 : decode b_B_isCrossing 17 = .ok (.ireturn, 1) := by decide +kernel
theorem d_B_isCode_0 : decode b_B_isCode 0 = .ok (.aload_n 0, 1) := by decide +kernel
theorem d_B_isCode_1 : decode b_B_isCode 1 = .ok (.invokevirtual 131, 3) := by decide +kernel
theorem d_B_isCode_4 : decode b_B_isCode 4 = .ok (.ifCond .ne 7, 3) := by decide +kernel
theorem d_B_isCode_7 : decode b_B_isCode 7 = .ok (.iconst 1, 1) := by decide +kernel
theorem d_B_isCode_8 : decode b_B_isCode 8 = .ok (.goto 4, 3) := by decide +kernel
theorem d_B_isCode_11 : decode b_B_isCode 11 = .ok (.iconst 0, 1) := by decide +kernel
theorem d_B_isCode_12 : decode b_B_isCode 12 = .ok (.ireturn, 1) := by decide +kernel
theorem d_B_orderAsGiven_0 : decode b_B_orderAsGiven 0 = .ok (.iconst 0, 1) := by decide +kernel
theorem d_B_orderAsGiven_1 : decode b_B_orderAsGiven 1 = .ok (.istore_n 1, 1) := by decide +kernel
theorem d_B_orderAsGiven_2 : decode b_B_orderAsGiven 2 = .ok (.iload_n 1, 1) := by decide +kernel
theorem d_B_orderAsGiven_3 : decode b_B_orderAsGiven 3 = .ok (.bipush 10, 2) := by decide +kernel
theorem d_B_orderAsGiven_5 : decode b_B_orderAsGiven 5 = .ok (.if_icmp .ge 16, 3) := by decide +kernel
theorem d_B_orderAsGiven_8 : decode b_B_orderAsGiven 8 = .ok (.aload_n 0, 1) := by decide +kernel
theorem d_B_orderAsGiven_9 : decode b_B_orderAsGiven 9 = .ok (.getfield 23, 3) := by decide +kernel
theorem d_B_orderAsGiven_12 : decode b_B_orderAsGiven 12 = .ok (.iload_n 1, 1) := by decide +kernel
theorem d_B_orderAsGiven_13 : decode b_B_orderAsGiven 13 = .ok (.iload_n 1, 1) := by decide +kernel
theorem d_B_orderAsGiven_14 : decode b_B_orderAsGiven 14 = .ok (.iastore, 1) := by decide +kernel
theorem d_B_orderAsGiven_15 : decode b_B_orderAsGiven 15 = .ok (.iinc 1 1, 3) := by decide +kernel
theorem d_B_orderAsGiven_18 : decode b_B_orderAsGiven 18 = .ok (.goto (-16), 3) := by decide +kernel
theorem d_B_orderAsGiven_21 : decode b_B_orderAsGiven 21 = .ok (.aload_n 0, 1) := by decide +kernel
theorem d_B_orderAsGiven_22 : decode b_B_orderAsGiven 22 = .ok (.iconst 0, 1) := by decide +kernel
theorem d_B_orderAsGiven_23 : decode b_B_orderAsGiven 23 = .ok (.putfield 50, 3) := by decide +kernel
theorem d_B_orderAsGiven_26 : decode b_B_orderAsGiven 26 = .ok (.return_, 1) := by decide +kernel
theorem d_B_countStanding_0 : decode b_B_countStanding 0 = .ok (.aload_n 0, 1) := by decide +kernel
theorem d_B_countStanding_1 : decode b_B_countStanding 1 = .ok (.getfield 26, 3) := by decide +kernel
theorem d_B_countStanding_4 : decode b_B_countStanding 4 = .ok (.iconst 0, 1) := by decide +kernel
theorem d_B_countStanding_5 : decode b_B_countStanding 5 = .ok (.invokestatic 134, 3) := by decide +kernel
theorem d_B_countStanding_8 : decode b_B_countStanding 8 = .ok (.iconst 0, 1) := by decide +kernel
theorem d_B_countStanding_9 : decode b_B_countStanding 9 = .ok (.istore_n 1, 1) := by decide +kernel
theorem d_B_countStanding_10 : decode b_B_countStanding 10 = .ok (.iload_n 1, 1) := by decide +kernel
theorem d_B_countStanding_11 : decode b_B_countStanding 11 = .ok (.iconst 4, 1) := by decide +kernel
theorem d_B_countStanding_12 : decode b_B_countStanding 12 = .ok (.aload_n 0, 1) := by decide +kernel
theorem d_B_countStanding_13 : decode b_B_countStanding 13 = .ok (.getfield 16, 3) := by decide +kernel
theorem d_B_countStanding_16 : decode b_B_countStanding 16 = .ok (.imul, 1) := by decide +kernel
theorem d_B_countStanding_17 : decode b_B_countStanding 17 = .ok (.if_icmp .ge 24, 3) := by decide +kernel
theorem d_B_countStanding_20 : decode b_B_countStanding 20 = .ok (.aload_n 0, 1) := by decide +kernel
theorem d_B_countStanding_21 : decode b_B_countStanding 21 = .ok (.getfield 26, 3) := by decide +kernel
theorem d_B_countStanding_24 : decode b_B_countStanding 24 = .ok (.aload_n 0, 1) := by decide +kernel
theorem d_B_countStanding_25 : decode b_B_countStanding 25 = .ok (.getfield 9, 3) := by decide +kernel
theorem d_B_countStanding_28 : decode b_B_countStanding 28 = .ok (.iload_n 1, 1) := by decide +kernel
theorem d_B_countStanding_29 : decode b_B_countStanding 29 = .ok (.iaload, 1) := by decide +kernel
theorem d_B_countStanding_30 : decode b_B_countStanding 30 = .ok (.dup2, 1) := by decide +kernel
theorem d_B_countStanding_31 : decode b_B_countStanding 31 = .ok (.iaload, 1) := by decide +kernel
theorem d_B_countStanding_32 : decode b_B_countStanding 32 = .ok (.iconst 1, 1) := by decide +kernel
theorem d_B_countStanding_33 : decode b_B_countStanding 33 = .ok (.iadd, 1) := by decide +kernel
theorem d_B_countStanding_34 : decode b_B_countStanding 34 = .ok (.iastore, 1) := by decide +kernel
theorem d_B_countStanding_35 : decode b_B_countStanding 35 = .ok (.iinc 1 1, 3) := by decide +kernel
theorem d_B_countStanding_38 : decode b_B_countStanding 38 = .ok (.goto (-28), 3) := by decide +kernel
theorem d_B_countStanding_41 : decode b_B_countStanding 41 = .ok (.return_, 1) := by decide +kernel
theorem d_B_sumOfSigns_0 : decode b_B_sumOfSigns 0 = .ok (.iconst 0, 1) := by decide +kernel
theorem d_B_sumOfSigns_1 : decode b_B_sumOfSigns 1 = .ok (.istore_n 1, 1) := by decide +kernel
theorem d_B_sumOfSigns_2 : decode b_B_sumOfSigns 2 = .ok (.iconst 0, 1) := by decide +kernel
theorem d_B_sumOfSigns_3 : decode b_B_sumOfSigns 3 = .ok (.istore_n 2, 1) := by decide +kernel
theorem d_B_sumOfSigns_4 : decode b_B_sumOfSigns 4 = .ok (.iload_n 2, 1) := by decide +kernel
theorem d_B_sumOfSigns_5 : decode b_B_sumOfSigns 5 = .ok (.aload_n 0, 1) := by decide +kernel
theorem d_B_sumOfSigns_6 : decode b_B_sumOfSigns 6 = .ok (.getfield 16, 3) := by decide +kernel
theorem d_B_sumOfSigns_9 : decode b_B_sumOfSigns 9 = .ok (.if_icmp .ge 18, 3) := by decide +kernel
theorem d_B_sumOfSigns_12 : decode b_B_sumOfSigns 12 = .ok (.iload_n 1, 1) := by decide +kernel
theorem d_B_sumOfSigns_13 : decode b_B_sumOfSigns 13 = .ok (.aload_n 0, 1) := by decide +kernel
theorem d_B_sumOfSigns_14 : decode b_B_sumOfSigns 14 = .ok (.getfield 13, 3) := by decide +kernel
theorem d_B_sumOfSigns_17 : decode b_B_sumOfSigns 17 = .ok (.iload_n 2, 1) := by decide +kernel
theorem d_B_sumOfSigns_18 : decode b_B_sumOfSigns 18 = .ok (.iaload, 1) := by decide +kernel
theorem d_B_sumOfSigns_19 : decode b_B_sumOfSigns 19 = .ok (.iadd, 1) := by decide +kernel
theorem d_B_sumOfSigns_20 : decode b_B_sumOfSigns 20 = .ok (.istore_n 1, 1) := by decide +kernel
theorem d_B_sumOfSigns_21 : decode b_B_sumOfSigns 21 = .ok (.iinc 2 1, 3) := by decide +kernel
theorem d_B_sumOfSigns_24 : decode b_B_sumOfSigns 24 = .ok (.goto (-20), 3) := by decide +kernel
theorem d_B_sumOfSigns_27 : decode b_B_sumOfSigns 27 = .ok (.iload_n 1, 1) := by decide +kernel
theorem d_B_sumOfSigns_28 : decode b_B_sumOfSigns 28 = .ok (.ireturn, 1) := by decide +kernel
theorem d_B_lookAtAll_0 : decode b_B_lookAtAll 0 = .ok (.iload_n 1, 1) := by decide +kernel
theorem d_B_lookAtAll_1 : decode b_B_lookAtAll 1 = .ok (.tableswitch 42 0 2 #[27, 32, 37], 27) := by decide +kernel
theorem d_B_lookAtAll_28 : decode b_B_lookAtAll 28 = .ok (.aload_n 0, 1) := by decide +kernel
theorem d_B_lookAtAll_29 : decode b_B_lookAtAll 29 = .ok (.getfield 16, 3) := by decide +kernel
theorem d_B_lookAtAll_32 : decode b_B_lookAtAll 32 = .ok (.ireturn, 1) := by decide +kernel
theorem d_B_lookAtAll_33 : decode b_B_lookAtAll 33 = .ok (.aload_n 0, 1) := by decide +kernel
theorem d_B_lookAtAll_34 : decode b_B_lookAtAll 34 = .ok (.getfield 20, 3) := by decide +kernel
theorem d_B_lookAtAll_37 : decode b_B_lookAtAll 37 = .ok (.ireturn, 1) := by decide +kernel
theorem d_B_lookAtAll_38 : decode b_B_lookAtAll 38 = .ok (.aload_n 0, 1) := by decide +kernel
theorem d_B_lookAtAll_39 : decode b_B_lookAtAll 39 = .ok (.invokevirtual 95, 3) := by decide +kernel
theorem d_B_lookAtAll_42 : decode b_B_lookAtAll 42 = .ok (.ireturn, 1) := by decide +kernel
theorem d_B_lookAtAll_43 : decode b_B_lookAtAll 43 = .ok (.sipush (-1000), 3) := by decide +kernel
theorem d_B_lookAtAll_46 : decode b_B_lookAtAll 46 = .ok (.ireturn, 1) := by decide +kernel
theorem d_B_goOverNone_0 : decode b_B_goOverNone 0 = .ok (.aload_n 0, 1) := by decide +kernel
theorem d_B_goOverNone_1 : decode b_B_goOverNone 1 = .ok (.getfield 26, 3) := by decide +kernel
theorem d_B_goOverNone_4 : decode b_B_goOverNone 4 = .ok (.iconst 0, 1) := by decide +kernel
theorem d_B_goOverNone_5 : decode b_B_goOverNone 5 = .ok (.invokestatic 134, 3) := by decide +kernel
theorem d_B_goOverNone_8 : decode b_B_goOverNone 8 = .ok (.iconst 0, 1) := by decide +kernel
theorem d_B_goOverNone_9 : decode b_B_goOverNone 9 = .ok (.istore_n 1, 1) := by decide +kernel
theorem d_B_goOverNone_10 : decode b_B_goOverNone 10 = .ok (.iload_n 1, 1) := by decide +kernel
theorem d_B_goOverNone_11 : decode b_B_goOverNone 11 = .ok (.bipush 10, 2) := by decide +kernel
theorem d_B_goOverNone_13 : decode b_B_goOverNone 13 = .ok (.if_icmp .ge 16, 3) := by decide +kernel
theorem d_B_goOverNone_16 : decode b_B_goOverNone 16 = .ok (.aload_n 0, 1) := by decide +kernel
theorem d_B_goOverNone_17 : decode b_B_goOverNone 17 = .ok (.getfield 29, 3) := by decide +kernel
theorem d_B_goOverNone_20 : decode b_B_goOverNone 20 = .ok (.iload_n 1, 1) := by decide +kernel
theorem d_B_goOverNone_21 : decode b_B_goOverNone 21 = .ok (.iconst 0, 1) := by decide +kernel
theorem d_B_goOverNone_22 : decode b_B_goOverNone 22 = .ok (.bastore, 1) := by decide +kernel
theorem d_B_goOverNone_23 : decode b_B_goOverNone 23 = .ok (.iinc 1 1, 3) := by decide +kernel
theorem d_B_goOverNone_26 : decode b_B_goOverNone 26 = .ok (.goto (-16), 3) := by decide +kernel
theorem d_B_goOverNone_29 : decode b_B_goOverNone 29 = .ok (.return_, 1) := by decide +kernel
theorem d_B_mostJoined_0 : decode b_B_mostJoined 0 = .ok (.iconst 0, 1) := by decide +kernel
theorem d_B_mostJoined_1 : decode b_B_mostJoined 1 = .ok (.istore_n 1, 1) := by decide +kernel
theorem d_B_mostJoined_2 : decode b_B_mostJoined 2 = .ok (.iconst (-1), 1) := by decide +kernel
theorem d_B_mostJoined_3 : decode b_B_mostJoined 3 = .ok (.istore_n 2, 1) := by decide +kernel
theorem d_B_mostJoined_4 : decode b_B_mostJoined 4 = .ok (.iconst 0, 1) := by decide +kernel
theorem d_B_mostJoined_5 : decode b_B_mostJoined 5 = .ok (.istore_n 3, 1) := by decide +kernel
theorem d_B_mostJoined_6 : decode b_B_mostJoined 6 = .ok (.iload_n 3, 1) := by decide +kernel
theorem d_B_mostJoined_7 : decode b_B_mostJoined 7 = .ok (.aload_n 0, 1) := by decide +kernel
theorem d_B_mostJoined_8 : decode b_B_mostJoined 8 = .ok (.getfield 16, 3) := by decide +kernel
theorem d_B_mostJoined_11 : decode b_B_mostJoined 11 = .ok (.if_icmp .ge 40, 3) := by decide +kernel
theorem d_B_mostJoined_14 : decode b_B_mostJoined 14 = .ok (.aload_n 0, 1) := by decide +kernel
theorem d_B_mostJoined_15 : decode b_B_mostJoined 15 = .ok (.getfield 29, 3) := by decide +kernel
theorem d_B_mostJoined_18 : decode b_B_mostJoined 18 = .ok (.iload_n 3, 1) := by decide +kernel
theorem d_B_mostJoined_19 : decode b_B_mostJoined 19 = .ok (.baload, 1) := by decide +kernel
theorem d_B_mostJoined_20 : decode b_B_mostJoined 20 = .ok (.ifCond .eq 7, 3) := by decide +kernel
theorem d_B_mostJoined_23 : decode b_B_mostJoined 23 = .ok (.iconst (-1), 1) := by decide +kernel
theorem d_B_mostJoined_24 : decode b_B_mostJoined 24 = .ok (.goto 8, 3) := by decide +kernel
theorem d_B_mostJoined_27 : decode b_B_mostJoined 27 = .ok (.aload_n 0, 1) := by decide +kernel
theorem d_B_mostJoined_28 : decode b_B_mostJoined 28 = .ok (.iload_n 3, 1) := by decide +kernel
theorem d_B_mostJoined_29 : decode b_B_mostJoined 29 = .ok (.invokevirtual 139, 3) := by decide +kernel
theorem d_B_mostJoined_32 : decode b_B_mostJoined 32 = .ok (.istore 4, 2) := by decide +kernel
theorem d_B_mostJoined_34 : decode b_B_mostJoined 34 = .ok (.iload 4, 2) := by decide +kernel
theorem d_B_mostJoined_36 : decode b_B_mostJoined 36 = .ok (.iload_n 2, 1) := by decide +kernel
theorem d_B_mostJoined_37 : decode b_B_mostJoined 37 = .ok (.if_icmp .le 8, 3) := by decide +kernel
theorem d_B_mostJoined_40 : decode b_B_mostJoined 40 = .ok (.iload_n 3, 1) := by decide +kernel
theorem d_B_mostJoined_41 : decode b_B_mostJoined 41 = .ok (.istore_n 1, 1) := by decide +kernel
theorem d_B_mostJoined_42 : decode b_B_mostJoined 42 = .ok (.iload 4, 2) := by decide +kernel
theorem d_B_mostJoined_44 : decode b_B_mostJoined 44 = .ok (.istore_n 2, 1) := by decide +kernel
theorem d_B_mostJoined_45 : decode b_B_mostJoined 45 = .ok (.iinc 3 1, 3) := by decide +kernel
theorem d_B_mostJoined_48 : decode b_B_mostJoined 48 = .ok (.goto (-42), 3) := by decide +kernel
theorem d_B_mostJoined_51 : decode b_B_mostJoined 51 = .ok (.iload_n 1, 1) := by decide +kernel
theorem d_B_mostJoined_52 : decode b_B_mostJoined 52 = .ok (.ireturn, 1) := by decide +kernel
theorem d_B_placesJoined_0 : decode b_B_placesJoined 0 = .ok (.iconst 0, 1) := by decide +kernel
theorem d_B_placesJoined_1 : decode b_B_placesJoined 1 = .ok (.istore_n 2, 1) := by decide +kernel
theorem d_B_placesJoined_2 : decode b_B_placesJoined 2 = .ok (.iconst 4, 1) := by decide +kernel
theorem d_B_placesJoined_3 : decode b_B_placesJoined 3 = .ok (.iload_n 1, 1) := by decide +kernel
theorem d_B_placesJoined_4 : decode b_B_placesJoined 4 = .ok (.imul, 1) := by decide +kernel
theorem d_B_placesJoined_5 : decode b_B_placesJoined 5 = .ok (.istore_n 3, 1) := by decide +kernel
theorem d_B_placesJoined_6 : decode b_B_placesJoined 6 = .ok (.iload_n 3, 1) := by decide +kernel
theorem d_B_placesJoined_7 : decode b_B_placesJoined 7 = .ok (.iconst 4, 1) := by decide +kernel
theorem d_B_placesJoined_8 : decode b_B_placesJoined 8 = .ok (.iload_n 1, 1) := by decide +kernel
theorem d_B_placesJoined_9 : decode b_B_placesJoined 9 = .ok (.iconst 1, 1) := by decide +kernel
theorem d_B_placesJoined_10 : decode b_B_placesJoined 10 = .ok (.iadd, 1) := by decide +kernel
theorem d_B_placesJoined_11 : decode b_B_placesJoined 11 = .ok (.imul, 1) := by decide +kernel
theorem d_B_placesJoined_12 : decode b_B_placesJoined 12 = .ok (.if_icmp .ge 26, 3) := by decide +kernel
theorem d_B_placesJoined_15 : decode b_B_placesJoined 15 = .ok (.aload_n 0, 1) := by decide +kernel
theorem d_B_placesJoined_16 : decode b_B_placesJoined 16 = .ok (.getfield 26, 3) := by decide +kernel
theorem d_B_placesJoined_19 : decode b_B_placesJoined 19 = .ok (.aload_n 0, 1) := by decide +kernel
theorem d_B_placesJoined_20 : decode b_B_placesJoined 20 = .ok (.getfield 9, 3) := by decide +kernel
theorem d_B_placesJoined_23 : decode b_B_placesJoined 23 = .ok (.iload_n 3, 1) := by decide +kernel
theorem d_B_placesJoined_24 : decode b_B_placesJoined 24 = .ok (.iaload, 1) := by decide +kernel
theorem d_B_placesJoined_25 : decode b_B_placesJoined 25 = .ok (.iaload, 1) := by decide +kernel
theorem d_B_placesJoined_26 : decode b_B_placesJoined 26 = .ok (.ifCond .le 6, 3) := by decide +kernel
theorem d_B_placesJoined_29 : decode b_B_placesJoined 29 = .ok (.iinc 2 1, 3) := by decide +kernel
theorem d_B_placesJoined_32 : decode b_B_placesJoined 32 = .ok (.iinc 3 1, 3) := by decide +kernel
theorem d_B_placesJoined_35 : decode b_B_placesJoined 35 = .ok (.goto (-29), 3) := by decide +kernel
theorem d_B_placesJoined_38 : decode b_B_placesJoined 38 = .ok (.iload_n 2, 1) := by decide +kernel
theorem d_B_placesJoined_39 : decode b_B_placesJoined 39 = .ok (.ireturn, 1) := by decide +kernel
theorem d_B_goOver_0 : decode b_B_goOver 0 = .ok (.iconst 0, 1) := by decide +kernel
theorem d_B_goOver_1 : decode b_B_goOver 1 = .ok (.istore_n 2, 1) := by decide +kernel
theorem d_B_goOver_2 : decode b_B_goOver 2 = .ok (.iconst 4, 1) := by decide +kernel
theorem d_B_goOver_3 : decode b_B_goOver 3 = .ok (.iload_n 1, 1) := by decide +kernel
theorem d_B_goOver_4 : decode b_B_goOver 4 = .ok (.imul, 1) := by decide +kernel
theorem d_B_goOver_5 : decode b_B_goOver 5 = .ok (.istore_n 3, 1) := by decide +kernel
theorem d_B_goOver_6 : decode b_B_goOver 6 = .ok (.iload_n 3, 1) := by decide +kernel
theorem d_B_goOver_7 : decode b_B_goOver 7 = .ok (.iconst 4, 1) := by decide +kernel
theorem d_B_goOver_8 : decode b_B_goOver 8 = .ok (.iload_n 1, 1) := by decide +kernel
theorem d_B_goOver_9 : decode b_B_goOver 9 = .ok (.iconst 1, 1) := by decide +kernel
theorem d_B_goOver_10 : decode b_B_goOver 10 = .ok (.iadd, 1) := by decide +kernel
theorem d_B_goOver_11 : decode b_B_goOver 11 = .ok (.imul, 1) := by decide +kernel
theorem d_B_goOver_12 : decode b_B_goOver 12 = .ok (.if_icmp .ge 47, 3) := by decide +kernel
theorem d_B_goOver_15 : decode b_B_goOver 15 = .ok (.aload_n 0, 1) := by decide +kernel
theorem d_B_goOver_16 : decode b_B_goOver 16 = .ok (.getfield 26, 3) := by decide +kernel
theorem d_B_goOver_19 : decode b_B_goOver 19 = .ok (.aload_n 0, 1) := by decide +kernel
theorem d_B_goOver_20 : decode b_B_goOver 20 = .ok (.getfield 9, 3) := by decide +kernel
theorem d_B_goOver_23 : decode b_B_goOver 23 = .ok (.iload_n 3, 1) := by decide +kernel
theorem d_B_goOver_24 : decode b_B_goOver 24 = .ok (.iaload, 1) := by decide +kernel
theorem d_B_goOver_25 : decode b_B_goOver 25 = .ok (.dup2, 1) := by decide +kernel
theorem d_B_goOver_26 : decode b_B_goOver 26 = .ok (.iaload, 1) := by decide +kernel
theorem d_B_goOver_27 : decode b_B_goOver 27 = .ok (.iconst 1, 1) := by decide +kernel
theorem d_B_goOver_28 : decode b_B_goOver 28 = .ok (.iadd, 1) := by decide +kernel
theorem d_B_goOver_29 : decode b_B_goOver 29 = .ok (.iastore, 1) := by decide +kernel
theorem d_B_goOver_30 : decode b_B_goOver 30 = .ok (.iload_n 2, 1) := by decide +kernel
theorem d_B_goOver_31 : decode b_B_goOver 31 = .ok (.aload_n 0, 1) := by decide +kernel
theorem d_B_goOver_32 : decode b_B_goOver 32 = .ok (.getfield 26, 3) := by decide +kernel
theorem d_B_goOver_35 : decode b_B_goOver 35 = .ok (.aload_n 0, 1) := by decide +kernel
theorem d_B_goOver_36 : decode b_B_goOver 36 = .ok (.getfield 9, 3) := by decide +kernel
theorem d_B_goOver_39 : decode b_B_goOver 39 = .ok (.iload_n 3, 1) := by decide +kernel
theorem d_B_goOver_40 : decode b_B_goOver 40 = .ok (.iaload, 1) := by decide +kernel
theorem d_B_goOver_41 : decode b_B_goOver 41 = .ok (.iaload, 1) := by decide +kernel
theorem d_B_goOver_42 : decode b_B_goOver 42 = .ok (.iconst 1, 1) := by decide +kernel
theorem d_B_goOver_43 : decode b_B_goOver 43 = .ok (.if_icmp .ne 7, 3) := by decide +kernel
theorem d_B_goOver_46 : decode b_B_goOver 46 = .ok (.iconst 1, 1) := by decide +kernel
theorem d_B_goOver_47 : decode b_B_goOver 47 = .ok (.goto 4, 3) := by decide +kernel
theorem d_B_goOver_50 : decode b_B_goOver 50 = .ok (.iconst (-1), 1) := by decide +kernel
theorem d_B_goOver_51 : decode b_B_goOver 51 = .ok (.iadd, 1) := by decide +kernel
theorem d_B_goOver_52 : decode b_B_goOver 52 = .ok (.istore_n 2, 1) := by decide +kernel
theorem d_B_goOver_53 : decode b_B_goOver 53 = .ok (.iinc 3 1, 3) := by decide +kernel
theorem d_B_goOver_56 : decode b_B_goOver 56 = .ok (.goto (-50), 3) := by decide +kernel
theorem d_B_goOver_59 : decode b_B_goOver 59 = .ok (.aload_n 0, 1) := by decide +kernel
end
section
theorem d_B_goOver_60 : decode b_B_goOver 60 = .ok (.getfield 29, 3) := by decide +kernel
theorem d_B_goOver_63 : decode b_B_goOver 63 = .ok (.iload_n 1, 1) := by decide +kernel
theorem d_B_goOver_64 : decode b_B_goOver 64 = .ok (.iconst 1, 1) := by decide +kernel
theorem d_B_goOver_65 : decode b_B_goOver 65 = .ok (.bastore, 1) := by decide +kernel
theorem d_B_goOver_66 : decode b_B_goOver 66 = .ok (.iload_n 2, 1) := by decide +kernel
theorem d_B_goOver_67 : decode b_B_goOver 67 = .ok (.ireturn, 1) := by decide +kernel
theorem d_B_renamed_0 : decode b_B_renamed 0 = .ok (.iload_n 0, 1) := by decide +kernel
theorem d_B_renamed_1 : decode b_B_renamed 1 = .ok (.iload_n 1, 1) := by decide +kernel
theorem d_B_renamed_2 : decode b_B_renamed 2 = .ok (.iload_n 2, 1) := by decide +kernel
theorem d_B_renamed_3 : decode b_B_renamed 3 = .ok (.invokestatic 82, 3) := by decide +kernel
theorem d_B_renamed_6 : decode b_B_renamed 6 = .ok (.if_icmp .ne 11, 3) := by decide +kernel
theorem d_B_renamed_9 : decode b_B_renamed 9 = .ok (.iload_n 1, 1) := by decide +kernel
theorem d_B_renamed_10 : decode b_B_renamed 10 = .ok (.iload_n 2, 1) := by decide +kernel
theorem d_B_renamed_11 : decode b_B_renamed 11 = .ok (.invokestatic 142, 3) := by decide +kernel
theorem d_B_renamed_14 : decode b_B_renamed 14 = .ok (.goto 4, 3) := by decide +kernel
theorem d_B_renamed_17 : decode b_B_renamed 17 = .ok (.iload_n 0, 1) := by decide +kernel
theorem d_B_renamed_18 : decode b_B_renamed 18 = .ok (.ireturn, 1) := by decide +kernel
theorem d_B_unite_0 : decode b_B_unite 0 = .ok (.iconst 0, 1) := by decide +kernel
theorem d_B_unite_1 : decode b_B_unite 1 = .ok (.istore_n 3, 1) := by decide +kernel
theorem d_B_unite_2 : decode b_B_unite 2 = .ok (.iload_n 3, 1) := by decide +kernel
theorem d_B_unite_3 : decode b_B_unite 3 = .ok (.iconst 4, 1) := by decide +kernel
theorem d_B_unite_4 : decode b_B_unite 4 = .ok (.aload_n 0, 1) := by decide +kernel
theorem d_B_unite_5 : decode b_B_unite 5 = .ok (.getfield 16, 3) := by decide +kernel
theorem d_B_unite_8 : decode b_B_unite 8 = .ok (.imul, 1) := by decide +kernel
theorem d_B_unite_9 : decode b_B_unite 9 = .ok (.if_icmp .ge 26, 3) := by decide +kernel
theorem d_B_unite_12 : decode b_B_unite 12 = .ok (.aload_n 0, 1) := by decide +kernel
theorem d_B_unite_13 : decode b_B_unite 13 = .ok (.getfield 9, 3) := by decide +kernel
theorem d_B_unite_16 : decode b_B_unite 16 = .ok (.iload_n 3, 1) := by decide +kernel
theorem d_B_unite_17 : decode b_B_unite 17 = .ok (.aload_n 0, 1) := by decide +kernel
theorem d_B_unite_18 : decode b_B_unite 18 = .ok (.getfield 9, 3) := by decide +kernel
theorem d_B_unite_21 : decode b_B_unite 21 = .ok (.iload_n 3, 1) := by decide +kernel
theorem d_B_unite_22 : decode b_B_unite 22 = .ok (.iaload, 1) := by decide +kernel
theorem d_B_unite_23 : decode b_B_unite 23 = .ok (.iload_n 1, 1) := by decide +kernel
theorem d_B_unite_24 : decode b_B_unite 24 = .ok (.iload_n 2, 1) := by decide +kernel
theorem d_B_unite_25 : decode b_B_unite 25 = .ok (.invokestatic 120, 3) := by decide +kernel
theorem d_B_unite_28 : decode b_B_unite 28 = .ok (.iastore, 1) := by decide +kernel
theorem d_B_unite_29 : decode b_B_unite 29 = .ok (.iinc 3 1, 3) := by decide +kernel
theorem d_B_unite_32 : decode b_B_unite 32 = .ok (.goto (-30), 3) := by decide +kernel
theorem d_B_unite_35 : decode b_B_unite 35 = .ok (.return_, 1) := by decide +kernel
theorem d_B_carry_0 : decode b_B_carry 0 = .ok (.iload_n 1, 1) := by decide +kernel
theorem d_B_carry_1 : decode b_B_carry 1 = .ok (.istore_n 3, 1) := by decide +kernel
theorem d_B_carry_2 : decode b_B_carry 2 = .ok (.iload_n 3, 1) := by decide +kernel
theorem d_B_carry_3 : decode b_B_carry 3 = .ok (.iload_n 2, 1) := by decide +kernel
theorem d_B_carry_4 : decode b_B_carry 4 = .ok (.if_icmp .ge 14, 3) := by decide +kernel
theorem d_B_carry_7 : decode b_B_carry 7 = .ok (.aload_n 0, 1) := by decide +kernel
theorem d_B_carry_8 : decode b_B_carry 8 = .ok (.iload_n 3, 1) := by decide +kernel
theorem d_B_carry_9 : decode b_B_carry 9 = .ok (.invokevirtual 145, 3) := by decide +kernel
theorem d_B_carry_12 : decode b_B_carry 12 = .ok (.iinc 3 1, 3) := by decide +kernel
theorem d_B_carry_15 : decode b_B_carry 15 = .ok (.goto (-13), 3) := by decide +kernel
theorem d_B_carry_18 : decode b_B_carry 18 = .ok (.iload_n 1, 1) := by decide +kernel
theorem d_B_carry_19 : decode b_B_carry 19 = .ok (.istore_n 3, 1) := by decide +kernel
theorem d_B_carry_20 : decode b_B_carry 20 = .ok (.iload_n 3, 1) := by decide +kernel
theorem d_B_carry_21 : decode b_B_carry 21 = .ok (.iload_n 2, 1) := by decide +kernel
theorem d_B_carry_22 : decode b_B_carry 22 = .ok (.if_icmp .le 16, 3) := by decide +kernel
theorem d_B_carry_25 : decode b_B_carry 25 = .ok (.aload_n 0, 1) := by decide +kernel
theorem d_B_carry_26 : decode b_B_carry 26 = .ok (.iload_n 3, 1) := by decide +kernel
theorem d_B_carry_27 : decode b_B_carry 27 = .ok (.iconst 1, 1) := by decide +kernel
theorem d_B_carry_28 : decode b_B_carry 28 = .ok (.isub, 1) := by decide +kernel
theorem d_B_carry_29 : decode b_B_carry 29 = .ok (.invokevirtual 145, 3) := by decide +kernel
theorem d_B_carry_32 : decode b_B_carry 32 = .ok (.iinc 3 (-1), 3) := by decide +kernel
theorem d_B_carry_35 : decode b_B_carry 35 = .ok (.goto (-15), 3) := by decide +kernel
theorem d_B_carry_38 : decode b_B_carry 38 = .ok (.return_, 1) := by decide +kernel
theorem d_B_swapWithNext_0 : decode b_B_swapWithNext 0 = .ok (.aload_n 0, 1) := by decide +kernel
theorem d_B_swapWithNext_1 : decode b_B_swapWithNext 1 = .ok (.getfield 13, 3) := by decide +kernel
theorem d_B_swapWithNext_4 : decode b_B_swapWithNext 4 = .ok (.iload_n 1, 1) := by decide +kernel
theorem d_B_swapWithNext_5 : decode b_B_swapWithNext 5 = .ok (.iaload, 1) := by decide +kernel
theorem d_B_swapWithNext_6 : decode b_B_swapWithNext 6 = .ok (.istore_n 2, 1) := by decide +kernel
theorem d_B_swapWithNext_7 : decode b_B_swapWithNext 7 = .ok (.aload_n 0, 1) := by decide +kernel
theorem d_B_swapWithNext_8 : decode b_B_swapWithNext 8 = .ok (.getfield 13, 3) := by decide +kernel
theorem d_B_swapWithNext_11 : decode b_B_swapWithNext 11 = .ok (.iload_n 1, 1) := by decide +kernel
theorem d_B_swapWithNext_12 : decode b_B_swapWithNext 12 = .ok (.aload_n 0, 1) := by decide +kernel
theorem d_B_swapWithNext_13 : decode b_B_swapWithNext 13 = .ok (.getfield 13, 3) := by decide +kernel
theorem d_B_swapWithNext_16 : decode b_B_swapWithNext 16 = .ok (.iload_n 1, 1) := by decide +kernel
theorem d_B_swapWithNext_17 : decode b_B_swapWithNext 17 = .ok (.iconst 1, 1) := by decide +kernel
theorem d_B_swapWithNext_18 : decode b_B_swapWithNext 18 = .ok (.iadd, 1) := by decide +kernel
theorem d_B_swapWithNext_19 : decode b_B_swapWithNext 19 = .ok (.iaload, 1) := by decide +kernel
theorem d_B_swapWithNext_20 : decode b_B_swapWithNext 20 = .ok (.iastore, 1) := by decide +kernel
theorem d_B_swapWithNext_21 : decode b_B_swapWithNext 21 = .ok (.aload_n 0, 1) := by decide +kernel
theorem d_B_swapWithNext_22 : decode b_B_swapWithNext 22 = .ok (.getfield 13, 3) := by decide +kernel
theorem d_B_swapWithNext_25 : decode b_B_swapWithNext 25 = .ok (.iload_n 1, 1) := by decide +kernel
theorem d_B_swapWithNext_26 : decode b_B_swapWithNext 26 = .ok (.iconst 1, 1) := by decide +kernel
theorem d_B_swapWithNext_27 : decode b_B_swapWithNext 27 = .ok (.iadd, 1) := by decide +kernel
theorem d_B_swapWithNext_28 : decode b_B_swapWithNext 28 = .ok (.iload_n 2, 1) := by decide +kernel
theorem d_B_swapWithNext_29 : decode b_B_swapWithNext 29 = .ok (.iastore, 1) := by decide +kernel
theorem d_B_swapWithNext_30 : decode b_B_swapWithNext 30 = .ok (.iconst 4, 1) := by decide +kernel
theorem d_B_swapWithNext_31 : decode b_B_swapWithNext 31 = .ok (.iload_n 1, 1) := by decide +kernel
theorem d_B_swapWithNext_32 : decode b_B_swapWithNext 32 = .ok (.imul, 1) := by decide +kernel
theorem d_B_swapWithNext_33 : decode b_B_swapWithNext 33 = .ok (.istore_n 3, 1) := by decide +kernel
theorem d_B_swapWithNext_34 : decode b_B_swapWithNext 34 = .ok (.iload_n 3, 1) := by decide +kernel
theorem d_B_swapWithNext_35 : decode b_B_swapWithNext 35 = .ok (.iconst 4, 1) := by decide +kernel
theorem d_B_swapWithNext_36 : decode b_B_swapWithNext 36 = .ok (.iload_n 1, 1) := by decide +kernel
theorem d_B_swapWithNext_37 : decode b_B_swapWithNext 37 = .ok (.iconst 1, 1) := by decide +kernel
theorem d_B_swapWithNext_38 : decode b_B_swapWithNext 38 = .ok (.iadd, 1) := by decide +kernel
theorem d_B_swapWithNext_39 : decode b_B_swapWithNext 39 = .ok (.imul, 1) := by decide +kernel
theorem d_B_swapWithNext_40 : decode b_B_swapWithNext 40 = .ok (.if_icmp .ge 41, 3) := by decide +kernel
theorem d_B_swapWithNext_43 : decode b_B_swapWithNext 43 = .ok (.aload_n 0, 1) := by decide +kernel
theorem d_B_swapWithNext_44 : decode b_B_swapWithNext 44 = .ok (.getfield 9, 3) := by decide +kernel
theorem d_B_swapWithNext_47 : decode b_B_swapWithNext 47 = .ok (.iload_n 3, 1) := by decide +kernel
theorem d_B_swapWithNext_48 : decode b_B_swapWithNext 48 = .ok (.iaload, 1) := by decide +kernel
theorem d_B_swapWithNext_49 : decode b_B_swapWithNext 49 = .ok (.istore 4, 2) := by decide +kernel
theorem d_B_swapWithNext_51 : decode b_B_swapWithNext 51 = .ok (.aload_n 0, 1) := by decide +kernel
theorem d_B_swapWithNext_52 : decode b_B_swapWithNext 52 = .ok (.getfield 9, 3) := by decide +kernel
theorem d_B_swapWithNext_55 : decode b_B_swapWithNext 55 = .ok (.iload_n 3, 1) := by decide +kernel
theorem d_B_swapWithNext_56 : decode b_B_swapWithNext 56 = .ok (.aload_n 0, 1) := by decide +kernel
theorem d_B_swapWithNext_57 : decode b_B_swapWithNext 57 = .ok (.getfield 9, 3) := by decide +kernel
theorem d_B_swapWithNext_60 : decode b_B_swapWithNext 60 = .ok (.iload_n 3, 1) := by decide +kernel
theorem d_B_swapWithNext_61 : decode b_B_swapWithNext 61 = .ok (.iconst 4, 1) := by decide +kernel
theorem d_B_swapWithNext_62 : decode b_B_swapWithNext 62 = .ok (.iadd, 1) := by decide +kernel
theorem d_B_swapWithNext_63 : decode b_B_swapWithNext 63 = .ok (.iaload, 1) := by decide +kernel
theorem d_B_swapWithNext_64 : decode b_B_swapWithNext 64 = .ok (.iastore, 1) := by decide +kernel
theorem d_B_swapWithNext_65 : decode b_B_swapWithNext 65 = .ok (.aload_n 0, 1) := by decide +kernel
theorem d_B_swapWithNext_66 : decode b_B_swapWithNext 66 = .ok (.getfield 9, 3) := by decide +kernel
theorem d_B_swapWithNext_69 : decode b_B_swapWithNext 69 = .ok (.iload_n 3, 1) := by decide +kernel
theorem d_B_swapWithNext_70 : decode b_B_swapWithNext 70 = .ok (.iconst 4, 1) := by decide +kernel
theorem d_B_swapWithNext_71 : decode b_B_swapWithNext 71 = .ok (.iadd, 1) := by decide +kernel
theorem d_B_swapWithNext_72 : decode b_B_swapWithNext 72 = .ok (.iload 4, 2) := by decide +kernel
theorem d_B_swapWithNext_74 : decode b_B_swapWithNext 74 = .ok (.iastore, 1) := by decide +kernel
theorem d_B_swapWithNext_75 : decode b_B_swapWithNext 75 = .ok (.iinc 3 1, 3) := by decide +kernel
theorem d_B_swapWithNext_78 : decode b_B_swapWithNext 78 = .ok (.goto (-44), 3) := by decide +kernel
theorem d_B_swapWithNext_81 : decode b_B_swapWithNext 81 = .ok (.return_, 1) := by decide +kernel
theorem d_B_workOut_0 : decode b_B_workOut 0 = .ok (.aload_n 0, 1) := by decide +kernel
theorem d_B_workOut_1 : decode b_B_workOut 1 = .ok (.getfield 50, 3) := by decide +kernel
theorem d_B_workOut_4 : decode b_B_workOut 4 = .ok (.ifCond .eq 4, 3) := by decide +kernel
theorem d_B_workOut_7 : decode b_B_workOut 7 = .ok (.return_, 1) := by decide +kernel
theorem d_B_workOut_8 : decode b_B_workOut 8 = .ok (.aload_n 0, 1) := by decide +kernel
theorem d_B_workOut_9 : decode b_B_workOut 9 = .ok (.getfield 46, 3) := by decide +kernel
theorem d_B_workOut_12 : decode b_B_workOut 12 = .ok (.invokevirtual 149, 3) := by decide +kernel
theorem d_B_workOut_15 : decode b_B_workOut 15 = .ok (.aload_n 0, 1) := by decide +kernel
theorem d_B_workOut_16 : decode b_B_workOut 16 = .ok (.invokevirtual 67, 3) := by decide +kernel
theorem d_B_workOut_19 : decode b_B_workOut 19 = .ok (.ifCond .eq 11, 3) := by decide +kernel
theorem d_B_workOut_22 : decode b_B_workOut 22 = .ok (.aload_n 0, 1) := by decide +kernel
theorem d_B_workOut_23 : decode b_B_workOut 23 = .ok (.invokevirtual 152, 3) := by decide +kernel
theorem d_B_workOut_26 : decode b_B_workOut 26 = .ok (.aload_n 0, 1) := by decide +kernel
theorem d_B_workOut_27 : decode b_B_workOut 27 = .ok (.invokevirtual 155, 3) := by decide +kernel
theorem d_B_workOut_30 : decode b_B_workOut 30 = .ok (.aload_n 0, 1) := by decide +kernel
theorem d_B_workOut_31 : decode b_B_workOut 31 = .ok (.iconst 1, 1) := by decide +kernel
theorem d_B_workOut_32 : decode b_B_workOut 32 = .ok (.putfield 50, 3) := by decide +kernel
theorem d_B_workOut_35 : decode b_B_workOut 35 = .ok (.return_, 1) := by decide +kernel
theorem d_B_tallyStates_0 : decode b_B_tallyStates 0 = .ok (.aload_n 0, 1) := by decide +kernel
theorem d_B_tallyStates_1 : decode b_B_tallyStates 1 = .ok (.getfield 33, 3) := by decide +kernel
theorem d_B_tallyStates_4 : decode b_B_tallyStates 4 = .ok (.iconst 0, 1) := by decide +kernel
theorem d_B_tallyStates_5 : decode b_B_tallyStates 5 = .ok (.invokestatic 134, 3) := by decide +kernel
theorem d_B_tallyStates_8 : decode b_B_tallyStates 8 = .ok (.aload_n 0, 1) := by decide +kernel
theorem d_B_tallyStates_9 : decode b_B_tallyStates 9 = .ok (.getfield 39, 3) := by decide +kernel
theorem d_B_tallyStates_12 : decode b_B_tallyStates 12 = .ok (.aload_n 0, 1) := by decide +kernel
theorem d_B_tallyStates_13 : decode b_B_tallyStates 13 = .ok (.getfield 9, 3) := by decide +kernel
theorem d_B_tallyStates_16 : decode b_B_tallyStates 16 = .ok (.iconst 4, 1) := by decide +kernel
theorem d_B_tallyStates_17 : decode b_B_tallyStates 17 = .ok (.aload_n 0, 1) := by decide +kernel
theorem d_B_tallyStates_18 : decode b_B_tallyStates 18 = .ok (.getfield 16, 3) := by decide +kernel
theorem d_B_tallyStates_21 : decode b_B_tallyStates 21 = .ok (.imul, 1) := by decide +kernel
theorem d_B_tallyStates_22 : decode b_B_tallyStates 22 = .ok (.invokevirtual 109, 3) := by decide +kernel
theorem d_B_tallyStates_25 : decode b_B_tallyStates 25 = .ok (.aload_n 0, 1) := by decide +kernel
theorem d_B_tallyStates_26 : decode b_B_tallyStates 26 = .ok (.getfield 16, 3) := by decide +kernel
theorem d_B_tallyStates_29 : decode b_B_tallyStates 29 = .ok (.ifCond .ne 14, 3) := by decide +kernel
theorem d_B_tallyStates_32 : decode b_B_tallyStates 32 = .ok (.aload_n 0, 1) := by decide +kernel
theorem d_B_tallyStates_33 : decode b_B_tallyStates 33 = .ok (.getfield 20, 3) := by decide +kernel
theorem d_B_tallyStates_36 : decode b_B_tallyStates 36 = .ok (.ifCond .ne 7, 3) := by decide +kernel
theorem d_B_tallyStates_39 : decode b_B_tallyStates 39 = .ok (.iconst 1, 1) := by decide +kernel
theorem d_B_tallyStates_40 : decode b_B_tallyStates 40 = .ok (.goto 4, 3) := by decide +kernel
theorem d_B_tallyStates_43 : decode b_B_tallyStates 43 = .ok (.iconst 0, 1) := by decide +kernel
theorem d_B_tallyStates_44 : decode b_B_tallyStates 44 = .ok (.istore_n 1, 1) := by decide +kernel
theorem d_B_tallyStates_45 : decode b_B_tallyStates 45 = .ok (.aload_n 0, 1) := by decide +kernel
theorem d_B_tallyStates_46 : decode b_B_tallyStates 46 = .ok (.iconst 0, 1) := by decide +kernel
theorem d_B_tallyStates_47 : decode b_B_tallyStates 47 = .ok (.iconst 0, 1) := by decide +kernel
theorem d_B_tallyStates_48 : decode b_B_tallyStates 48 = .ok (.iload_n 1, 1) := by decide +kernel
theorem d_B_tallyStates_49 : decode b_B_tallyStates 49 = .ok (.ifCond .eq 7, 3) := by decide +kernel
theorem d_B_tallyStates_52 : decode b_B_tallyStates 52 = .ok (.iconst 1, 1) := by decide +kernel
theorem d_B_tallyStates_53 : decode b_B_tallyStates 53 = .ok (.goto 7, 3) := by decide +kernel
theorem d_B_tallyStates_56 : decode b_B_tallyStates 56 = .ok (.aload_n 0, 1) := by decide +kernel
theorem d_B_tallyStates_57 : decode b_B_tallyStates 57 = .ok (.getfield 20, 3) := by decide +kernel
theorem d_B_tallyStates_60 : decode b_B_tallyStates 60 = .ok (.invokestatic 158, 3) := by decide +kernel
theorem d_B_tallyStates_63 : decode b_B_tallyStates 63 = .ok (.return_, 1) := by decide +kernel
theorem d_B_tallyFrom_0 : decode b_B_tallyFrom 0 = .ok (.iload_n 1, 1) := by decide +kernel
theorem d_B_tallyFrom_1 : decode b_B_tallyFrom 1 = .ok (.aload_n 0, 1) := by decide +kernel
theorem d_B_tallyFrom_2 : decode b_B_tallyFrom 2 = .ok (.getfield 16, 3) := by decide +kernel
theorem d_B_tallyFrom_5 : decode b_B_tallyFrom 5 = .ok (.if_icmp .lt 19, 3) := by decide +kernel
theorem d_B_tallyFrom_8 : decode b_B_tallyFrom 8 = .ok (.aload_n 0, 1) := by decide +kernel
theorem d_B_tallyFrom_9 : decode b_B_tallyFrom 9 = .ok (.getfield 33, 3) := by decide +kernel
theorem d_B_tallyFrom_12 : decode b_B_tallyFrom 12 = .ok (.iload_n 2, 1) := by decide +kernel
theorem d_B_tallyFrom_13 : decode b_B_tallyFrom 13 = .ok (.bipush 30, 2) := by decide +kernel
theorem d_B_tallyFrom_15 : decode b_B_tallyFrom 15 = .ok (.imul, 1) := by decide +kernel
theorem d_B_tallyFrom_16 : decode b_B_tallyFrom 16 = .ok (.iload_n 3, 1) := by decide +kernel
theorem d_B_tallyFrom_17 : decode b_B_tallyFrom 17 = .ok (.iadd, 1) := by decide +kernel
theorem d_B_tallyFrom_18 : decode b_B_tallyFrom 18 = .ok (.dup2, 1) := by decide +kernel
theorem d_B_tallyFrom_19 : decode b_B_tallyFrom 19 = .ok (.iaload, 1) := by decide +kernel
theorem d_B_tallyFrom_20 : decode b_B_tallyFrom 20 = .ok (.iconst 1, 1) := by decide +kernel
theorem d_B_tallyFrom_21 : decode b_B_tallyFrom 21 = .ok (.iadd, 1) := by decide +kernel
theorem d_B_tallyFrom_22 : decode b_B_tallyFrom 22 = .ok (.iastore, 1) := by decide +kernel
theorem d_B_tallyFrom_23 : decode b_B_tallyFrom 23 = .ok (.return_, 1) := by decide +kernel
theorem d_B_tallyFrom_24 : decode b_B_tallyFrom 24 = .ok (.aload_n 0, 1) := by decide +kernel
theorem d_B_tallyFrom_25 : decode b_B_tallyFrom 25 = .ok (.getfield 23, 3) := by decide +kernel
theorem d_B_tallyFrom_28 : decode b_B_tallyFrom 28 = .ok (.iload_n 1, 1) := by decide +kernel
theorem d_B_tallyFrom_29 : decode b_B_tallyFrom 29 = .ok (.iaload, 1) := by decide +kernel
theorem d_B_tallyFrom_30 : decode b_B_tallyFrom 30 = .ok (.istore 4, 2) := by decide +kernel
theorem d_B_tallyFrom_32 : decode b_B_tallyFrom 32 = .ok (.aload_n 0, 1) := by decide +kernel
theorem d_B_tallyFrom_33 : decode b_B_tallyFrom 33 = .ok (.getfield 39, 3) := by decide +kernel
theorem d_B_tallyFrom_36 : decode b_B_tallyFrom 36 = .ok (.iload 4, 2) := by decide +kernel
theorem d_B_tallyFrom_38 : decode b_B_tallyFrom 38 = .ok (.iconst 1, 1) := by decide +kernel
theorem d_B_tallyFrom_39 : decode b_B_tallyFrom 39 = .ok (.invokevirtual 113, 3) := by decide +kernel
theorem d_B_tallyFrom_42 : decode b_B_tallyFrom 42 = .ok (.istore 5, 2) := by decide +kernel
theorem d_B_tallyFrom_44 : decode b_B_tallyFrom 44 = .ok (.aload_n 0, 1) := by decide +kernel
theorem d_B_tallyFrom_45 : decode b_B_tallyFrom 45 = .ok (.iload_n 1, 1) := by decide +kernel
theorem d_B_tallyFrom_46 : decode b_B_tallyFrom 46 = .ok (.iconst 1, 1) := by decide +kernel
theorem d_B_tallyFrom_47 : decode b_B_tallyFrom 47 = .ok (.iadd, 1) := by decide +kernel
theorem d_B_tallyFrom_48 : decode b_B_tallyFrom 48 = .ok (.iload_n 2, 1) := by decide +kernel
theorem d_B_tallyFrom_49 : decode b_B_tallyFrom 49 = .ok (.iconst 1, 1) := by decide +kernel
theorem d_B_tallyFrom_50 : decode b_B_tallyFrom 50 = .ok (.iadd, 1) := by decide +kernel
theorem d_B_tallyFrom_51 : decode b_B_tallyFrom 51 = .ok (.iload_n 3, 1) := by decide +kernel
theorem d_B_tallyFrom_52 : decode b_B_tallyFrom 52 = .ok (.iload 5, 2) := by decide +kernel
theorem d_B_tallyFrom_54 : decode b_B_tallyFrom 54 = .ok (.iadd, 1) := by decide +kernel
theorem d_B_tallyFrom_55 : decode b_B_tallyFrom 55 = .ok (.invokestatic 158, 3) := by decide +kernel
theorem d_B_tallyFrom_58 : decode b_B_tallyFrom 58 = .ok (.aload_n 0, 1) := by decide +kernel
theorem d_B_tallyFrom_59 : decode b_B_tallyFrom 59 = .ok (.getfield 39, 3) := by decide +kernel
theorem d_B_tallyFrom_62 : decode b_B_tallyFrom 62 = .ok (.iload 4, 2) := by decide +kernel
theorem d_B_tallyFrom_64 : decode b_B_tallyFrom 64 = .ok (.iconst 1, 1) := by decide +kernel
theorem d_B_tallyFrom_65 : decode b_B_tallyFrom 65 = .ok (.invokevirtual 162, 3) := by decide +kernel
theorem d_B_tallyFrom_68 : decode b_B_tallyFrom 68 = .ok (.aload_n 0, 1) := by decide +kernel
theorem d_B_tallyFrom_69 : decode b_B_tallyFrom 69 = .ok (.getfield 39, 3) := by decide +kernel
theorem d_B_tallyFrom_72 : decode b_B_tallyFrom 72 = .ok (.iload 4, 2) := by decide +kernel
theorem d_B_tallyFrom_74 : decode b_B_tallyFrom 74 = .ok (.iconst 0, 1) := by decide +kernel
theorem d_B_tallyFrom_75 : decode b_B_tallyFrom 75 = .ok (.invokevirtual 113, 3) := by decide +kernel
theorem d_B_tallyFrom_78 : decode b_B_tallyFrom 78 = .ok (.istore 6, 2) := by decide +kernel
theorem d_B_tallyFrom_80 : decode b_B_tallyFrom 80 = .ok (.aload_n 0, 1) := by decide +kernel
theorem d_B_tallyFrom_81 : decode b_B_tallyFrom 81 = .ok (.iload_n 1, 1) := by decide +kernel
theorem d_B_tallyFrom_82 : decode b_B_tallyFrom 82 = .ok (.iconst 1, 1) := by decide +kernel
theorem d_B_tallyFrom_83 : decode b_B_tallyFrom 83 = .ok (.iadd, 1) := by decide +kernel
theorem d_B_tallyFrom_84 : decode b_B_tallyFrom 84 = .ok (.iload_n 2, 1) := by decide +kernel
theorem d_B_tallyFrom_85 : decode b_B_tallyFrom 85 = .ok (.iload_n 3, 1) := by decide +kernel
theorem d_B_tallyFrom_86 : decode b_B_tallyFrom 86 = .ok (.iload 6, 2) := by decide +kernel
theorem d_B_tallyFrom_88 : decode b_B_tallyFrom 88 = .ok (.iadd, 1) := by decide +kernel
theorem d_B_tallyFrom_89 : decode b_B_tallyFrom 89 = .ok (.invokestatic 158, 3) := by decide +kernel
theorem d_B_tallyFrom_92 : decode b_B_tallyFrom 92 = .ok (.aload_n 0, 1) := by decide +kernel
theorem d_B_tallyFrom_93 : decode b_B_tallyFrom 93 = .ok (.getfield 39, 3) := by decide +kernel
theorem d_B_tallyFrom_96 : decode b_B_tallyFrom 96 = .ok (.iload 4, 2) := by decide +kernel
theorem d_B_tallyFrom_98 : decode b_B_tallyFrom 98 = .ok (.iconst 0, 1) := by decide +kernel
theorem d_B_tallyFrom_99 : decode b_B_tallyFrom 99 = .ok (.invokevirtual 162, 3) := by decide +kernel
theorem d_B_tallyFrom_102 : decode b_B_tallyFrom 102 = .ok (.return_, 1) := by decide +kernel
theorem d_B_sumTally_0 : decode b_B_sumTally 0 = .ok (.bipush 29, 2) := by decide +kernel
theorem d_B_sumTally_2 : decode b_B_sumTally 2 = .ok (.istore_n 1, 1) := by decide +kernel
theorem d_B_sumTally_3 : decode b_B_sumTally 3 = .ok (.iload_n 1, 1) := by decide +kernel
theorem d_B_sumTally_4 : decode b_B_sumTally 4 = .ok (.iconst 1, 1) := by decide +kernel
theorem d_B_sumTally_5 : decode b_B_sumTally 5 = .ok (.if_icmp .lt 69, 3) := by decide +kernel
theorem d_B_sumTally_8 : decode b_B_sumTally 8 = .ok (.aload_n 0, 1) := by decide +kernel
theorem d_B_sumTally_9 : decode b_B_sumTally 9 = .ok (.getfield 46, 3) := by decide +kernel
theorem d_B_sumTally_12 : decode b_B_sumTally 12 = .ok (.invokevirtual 100, 3) := by decide +kernel
theorem d_B_sumTally_15 : decode b_B_sumTally 15 = .ok (.ifCond .ne 10, 3) := by decide +kernel
theorem d_B_sumTally_18 : decode b_B_sumTally 18 = .ok (.aload_n 0, 1) := by decide +kernel
theorem d_B_sumTally_19 : decode b_B_sumTally 19 = .ok (.getfield 46, 3) := by decide +kernel
theorem d_B_sumTally_22 : decode b_B_sumTally 22 = .ok (.invokevirtual 166, 3) := by decide +kernel
theorem d_B_sumTally_25 : decode b_B_sumTally 25 = .ok (.iconst 0, 1) := by decide +kernel
theorem d_B_sumTally_26 : decode b_B_sumTally 26 = .ok (.istore_n 2, 1) := by decide +kernel
theorem d_B_sumTally_27 : decode b_B_sumTally 27 = .ok (.iload_n 2, 1) := by decide +kernel
theorem d_B_sumTally_28 : decode b_B_sumTally 28 = .ok (.aload_n 0, 1) := by decide +kernel
theorem d_B_sumTally_29 : decode b_B_sumTally 29 = .ok (.getfield 16, 3) := by decide +kernel
theorem d_B_sumTally_32 : decode b_B_sumTally 32 = .ok (.if_icmp .gt 36, 3) := by decide +kernel
theorem d_B_sumTally_35 : decode b_B_sumTally 35 = .ok (.aload_n 0, 1) := by decide +kernel
theorem d_B_sumTally_36 : decode b_B_sumTally 36 = .ok (.getfield 46, 3) := by decide +kernel
theorem d_B_sumTally_39 : decode b_B_sumTally 39 = .ok (.iconst 2, 1) := by decide +kernel
theorem d_B_sumTally_40 : decode b_B_sumTally 40 = .ok (.iload_n 2, 1) := by decide +kernel
theorem d_B_sumTally_41 : decode b_B_sumTally 41 = .ok (.imul, 1) := by decide +kernel
theorem d_B_sumTally_42 : decode b_B_sumTally 42 = .ok (.aload_n 0, 1) := by decide +kernel
theorem d_B_sumTally_43 : decode b_B_sumTally 43 = .ok (.getfield 16, 3) := by decide +kernel
theorem d_B_sumTally_46 : decode b_B_sumTally 46 = .ok (.isub, 1) := by decide +kernel
theorem d_B_sumTally_47 : decode b_B_sumTally 47 = .ok (.aload_n 0, 1) := by decide +kernel
theorem d_B_sumTally_48 : decode b_B_sumTally 48 = .ok (.getfield 33, 3) := by decide +kernel
theorem d_B_sumTally_51 : decode b_B_sumTally 51 = .ok (.iload_n 2, 1) := by decide +kernel
theorem d_B_sumTally_52 : decode b_B_sumTally 52 = .ok (.bipush 30, 2) := by decide +kernel
theorem d_B_sumTally_54 : decode b_B_sumTally 54 = .ok (.imul, 1) := by decide +kernel
theorem d_B_sumTally_55 : decode b_B_sumTally 55 = .ok (.iload_n 1, 1) := by decide +kernel
theorem d_B_sumTally_56 : decode b_B_sumTally 56 = .ok (.iadd, 1) := by decide +kernel
theorem d_B_sumTally_57 : decode b_B_sumTally 57 = .ok (.iaload, 1) := by decide +kernel
theorem d_B_sumTally_58 : decode b_B_sumTally 58 = .ok (.i2l, 1) := by decide +kernel
theorem d_B_sumTally_59 : decode b_B_sumTally 59 = .ok (.invokevirtual 169, 3) := by decide +kernel
theorem d_B_sumTally_62 : decode b_B_sumTally 62 = .ok (.iinc 2 1, 3) := by decide +kernel
theorem d_B_sumTally_65 : decode b_B_sumTally 65 = .ok (.goto (-38), 3) := by decide +kernel
theorem d_B_sumTally_68 : decode b_B_sumTally 68 = .ok (.iinc 1 (-1), 3) := by decide +kernel
theorem d_B_sumTally_71 : decode b_B_sumTally 71 = .ok (.goto (-68), 3) := by decide +kernel
theorem d_B_sumTally_74 : decode b_B_sumTally 74 = .ok (.return_, 1) := by decide +kernel
theorem d_M_init_0 : decode b_M_init 0 = .ok (.aload_n 0, 1) := by decide +kernel
theorem d_M_init_1 : decode b_M_init 1 = .ok (.invokespecial 1, 3) := by decide +kernel
theorem d_M_init_4 : decode b_M_init 4 = .ok (.aload_n 0, 1) := by decide +kernel
theorem d_M_init_5 : decode b_M_init 5 = .ok (.bipush 10, 2) := by decide +kernel
theorem d_M_init_7 : decode b_M_init 7 = .ok (.newarray .int, 2) := by decide +kernel
theorem d_M_init_9 : decode b_M_init 9 = .ok (.putfield 7, 3) := by decide +kernel
theorem d_M_init_12 : decode b_M_init 12 = .ok (.aload_n 0, 1) := by decide +kernel
theorem d_M_init_13 : decode b_M_init 13 = .ok (.bipush 40, 2) := by decide +kernel
theorem d_M_init_15 : decode b_M_init 15 = .ok (.newarray .int, 2) := by decide +kernel
theorem d_M_init_17 : decode b_M_init 17 = .ok (.putfield 13, 3) := by decide +kernel
theorem d_M_init_20 : decode b_M_init 20 = .ok (.aload_n 0, 1) := by decide +kernel
theorem d_M_init_21 : decode b_M_init 21 = .ok (.bipush 40, 2) := by decide +kernel
theorem d_M_init_23 : decode b_M_init 23 = .ok (.newarray .int, 2) := by decide +kernel
theorem d_M_init_25 : decode b_M_init 25 = .ok (.putfield 16, 3) := by decide +kernel
theorem d_M_init_28 : decode b_M_init 28 = .ok (.aload_n 0, 1) := by decide +kernel
theorem d_M_init_29 : decode b_M_init 29 = .ok (.bipush 40, 2) := by decide +kernel
theorem d_M_init_31 : decode b_M_init 31 = .ok (.newarray .boolean, 2) := by decide +kernel
theorem d_M_init_33 : decode b_M_init 33 = .ok (.putfield 19, 3) := by decide +kernel
theorem d_M_init_36 : decode b_M_init 36 = .ok (.aload_n 0, 1) := by decide +kernel
theorem d_M_init_37 : decode b_M_init 37 = .ok (.bipush 10, 2) := by decide +kernel
theorem d_M_init_39 : decode b_M_init 39 = .ok (.newarray .boolean, 2) := by decide +kernel
theorem d_M_init_41 : decode b_M_init 41 = .ok (.putfield 23, 3) := by decide +kernel
theorem d_M_init_44 : decode b_M_init 44 = .ok (.aload_n 0, 1) := by decide +kernel
theorem d_M_init_45 : decode b_M_init 45 = .ok (.sipush 260, 3) := by decide +kernel
theorem d_M_init_48 : decode b_M_init 48 = .ok (.newarray .long, 2) := by decide +kernel
theorem d_M_init_50 : decode b_M_init 50 = .ok (.putfield 26, 3) := by decide +kernel
theorem d_M_init_53 : decode b_M_init 53 = .ok (.aload_n 0, 1) := by decide +kernel
theorem d_M_init_54 : decode b_M_init 54 = .ok (.sipush 672, 3) := by decide +kernel
theorem d_M_init_57 : decode b_M_init 57 = .ok (.newarray .int, 2) := by decide +kernel
theorem d_M_init_59 : decode b_M_init 59 = .ok (.putfield 30, 3) := by decide +kernel
theorem d_M_init_62 : decode b_M_init 62 = .ok (.aload_n 0, 1) := by decide +kernel
theorem d_M_init_63 : decode b_M_init 63 = .ok (.bipush 40, 2) := by decide +kernel
theorem d_M_init_65 : decode b_M_init 65 = .ok (.newarray .long, 2) := by decide +kernel
theorem d_M_init_67 : decode b_M_init 67 = .ok (.putfield 33, 3) := by decide +kernel
theorem d_M_init_70 : decode b_M_init 70 = .ok (.aload_n 0, 1) := by decide +kernel
theorem d_M_init_71 : decode b_M_init 71 = .ok (.iconst 4, 1) := by decide +kernel
theorem d_M_init_72 : decode b_M_init 72 = .ok (.newarray .int, 2) := by decide +kernel
theorem d_M_init_74 : decode b_M_init 74 = .ok (.putfield 36, 3) := by decide +kernel
theorem d_M_init_77 : decode b_M_init 77 = .ok (.return_, 1) := by decide +kernel
theorem d_M_crossing_0 : decode b_M_crossing 0 = .ok (.iload_n 2, 1) := by decide +kernel
theorem d_M_crossing_1 : decode b_M_crossing 1 = .ok (.ifCond .le 47, 3) := by decide +kernel
theorem d_M_crossing_4 : decode b_M_crossing 4 = .ok (.iload_n 2, 1) := by decide +kernel
theorem d_M_crossing_5 : decode b_M_crossing 5 = .ok (.bipush 100, 2) := by decide +kernel
theorem d_M_crossing_7 : decode b_M_crossing 7 = .ok (.if_icmp .ge 41, 3) := by decide +kernel
theorem d_M_crossing_10 : decode b_M_crossing 10 = .ok (.iload_n 3, 1) := by decide +kernel
theorem d_M_crossing_11 : decode b_M_crossing 11 = .ok (.ifCond .le 37, 3) := by decide +kernel
theorem d_M_crossing_14 : decode b_M_crossing 14 = .ok (.iload_n 3, 1) := by decide +kernel
theorem d_M_crossing_15 : decode b_M_crossing 15 = .ok (.bipush 100, 2) := by decide +kernel
theorem d_M_crossing_17 : decode b_M_crossing 17 = .ok (.if_icmp .ge 31, 3) := by decide +kernel
theorem d_M_crossing_20 : decode b_M_crossing 20 = .ok (.iload 4, 2) := by decide +kernel
theorem d_M_crossing_22 : decode b_M_crossing 22 = .ok (.ifCond .le 26, 3) := by decide +kernel
theorem d_M_crossing_25 : decode b_M_crossing 25 = .ok (.iload 4, 2) := by decide +kernel
theorem d_M_crossing_27 : decode b_M_crossing 27 = .ok (.bipush 100, 2) := by decide +kernel
theorem d_M_crossing_29 : decode b_M_crossing 29 = .ok (.if_icmp .ge 19, 3) := by decide +kernel
theorem d_M_crossing_32 : decode b_M_crossing 32 = .ok (.iload 5, 2) := by decide +kernel
theorem d_M_crossing_34 : decode b_M_crossing 34 = .ok (.ifCond .le 14, 3) := by decide +kernel
theorem d_M_crossing_37 : decode b_M_crossing 37 = .ok (.iload 5, 2) := by decide +kernel
theorem d_M_crossing_39 : decode b_M_crossing 39 = .ok (.bipush 100, 2) := by decide +kernel
theorem d_M_crossing_41 : decode b_M_crossing 41 = .ok (.if_icmp .ge 7, 3) := by decide +kernel
theorem d_M_crossing_44 : decode b_M_crossing 44 = .ok (.iconst 1, 1) := by decide +kernel
theorem d_M_crossing_45 : decode b_M_crossing 45 = .ok (.goto 4, 3) := by decide +kernel
theorem d_M_crossing_48 : decode b_M_crossing 48 = .ok (.iconst 0, 1) := by decide +kernel
theorem d_M_crossing_49 : decode b_M_crossing 49 = .ok (.istore 6, 2) := by decide +kernel
theorem d_M_crossing_51 : decode b_M_crossing 51 = .ok (.iload_n 1, 1) := by decide +kernel
theorem d_M_crossing_52 : decode b_M_crossing 52 = .ok (.iconst 1, 1) := by decide +kernel
theorem d_M_crossing_53 : decode b_M_crossing 53 = .ok (.if_icmp .eq 8, 3) := by decide +kernel
theorem d_M_crossing_56 : decode b_M_crossing 56 = .ok (.iload_n 1, 1) := by decide +kernel
theorem d_M_crossing_57 : decode b_M_crossing 57 = .ok (.iconst (-1), 1) := by decide +kernel
theorem d_M_crossing_58 : decode b_M_crossing 58 = .ok (.if_icmp .ne 17, 3) := by decide +kernel
theorem d_M_crossing_61 : decode b_M_crossing 61 = .ok (.iload 6, 2) := by decide +kernel
theorem d_M_crossing_63 : decode b_M_crossing 63 = .ok (.ifCond .eq 12, 3) := by decide +kernel
theorem d_M_crossing_66 : decode b_M_crossing 66 = .ok (.aload_n 0, 1) := by decide +kernel
theorem d_M_crossing_67 : decode b_M_crossing 67 = .ok (.getfield 43, 3) := by decide +kernel
theorem d_M_crossing_70 : decode b_M_crossing 70 = .ok (.bipush 10, 2) := by decide +kernel
theorem d_M_crossing_72 : decode b_M_crossing 72 = .ok (.if_icmp .ne 5, 3) := by decide +kernel
theorem d_M_crossing_75 : decode b_M_crossing 75 = .ok (.iconst (-1), 1) := by decide +kernel
theorem d_M_crossing_76 : decode b_M_crossing 76 = .ok (.ireturn, 1) := by decide +kernel
theorem d_M_crossing_77 : decode b_M_crossing 77 = .ok (.aload_n 0, 1) := by decide +kernel
theorem d_M_crossing_78 : decode b_M_crossing 78 = .ok (.getfield 7, 3) := by decide +kernel
theorem d_M_crossing_81 : decode b_M_crossing 81 = .ok (.aload_n 0, 1) := by decide +kernel
theorem d_M_crossing_82 : decode b_M_crossing 82 = .ok (.getfield 43, 3) := by decide +kernel
theorem d_M_crossing_85 : decode b_M_crossing 85 = .ok (.iload_n 1, 1) := by decide +kernel
theorem d_M_crossing_86 : decode b_M_crossing 86 = .ok (.iastore, 1) := by decide +kernel
theorem d_M_crossing_87 : decode b_M_crossing 87 = .ok (.aload_n 0, 1) := by decide +kernel
theorem d_M_crossing_88 : decode b_M_crossing 88 = .ok (.getfield 13, 3) := by decide +kernel
theorem d_M_crossing_91 : decode b_M_crossing 91 = .ok (.iconst 4, 1) := by decide +kernel
theorem d_M_crossing_92 : decode b_M_crossing 92 = .ok (.aload_n 0, 1) := by decide +kernel
theorem d_M_crossing_93 : decode b_M_crossing 93 = .ok (.getfield 43, 3) := by decide +kernel
theorem d_M_crossing_96 : decode b_M_crossing 96 = .ok (.imul, 1) := by decide +kernel
theorem d_M_crossing_97 : decode b_M_crossing 97 = .ok (.iload_n 2, 1) := by decide +kernel
theorem d_M_crossing_98 : decode b_M_crossing 98 = .ok (.iastore, 1) := by decide +kernel
theorem d_M_crossing_99 : decode b_M_crossing 99 = .ok (.aload_n 0, 1) := by decide +kernel
theorem d_M_crossing_100 : decode b_M_crossing 100 = .ok (.getfield 13, 3) := by decide +kernel
theorem d_M_crossing_103 : decode b_M_crossing 103 = .ok (.iconst 4, 1) := by decide +kernel
theorem d_M_crossing_104 : decode b_M_crossing 104 = .ok (.aload_n 0, 1) := by decide +kernel
theorem d_M_crossing_105 : decode b_M_crossing 105 = .ok (.getfield 43, 3) := by decide +kernel
theorem d_M_crossing_108 : decode b_M_crossing 108 = .ok (.imul, 1) := by decide +kernel
theorem d_M_crossing_109 : decode b_M_crossing 109 = .ok (.iconst 1, 1) := by decide +kernel
theorem d_M_crossing_110 : decode b_M_crossing 110 = .ok (.iadd, 1) := by decide +kernel
theorem d_M_crossing_111 : decode b_M_crossing 111 = .ok (.iload_n 3, 1) := by decide +kernel
theorem d_M_crossing_112 : decode b_M_crossing 112 = .ok (.iastore, 1) := by decide +kernel
theorem d_M_crossing_113 : decode b_M_crossing 113 = .ok (.aload_n 0, 1) := by decide +kernel
theorem d_M_crossing_114 : decode b_M_crossing 114 = .ok (.getfield 13, 3) := by decide +kernel
theorem d_M_crossing_117 : decode b_M_crossing 117 = .ok (.iconst 4, 1) := by decide +kernel
theorem d_M_crossing_118 : decode b_M_crossing 118 = .ok (.aload_n 0, 1) := by decide +kernel
theorem d_M_crossing_119 : decode b_M_crossing 119 = .ok (.getfield 43, 3) := by decide +kernel
theorem d_M_crossing_122 : decode b_M_crossing 122 = .ok (.imul, 1) := by decide +kernel
theorem d_M_crossing_123 : decode b_M_crossing 123 = .ok (.iconst 2, 1) := by decide +kernel
theorem d_M_crossing_124 : decode b_M_crossing 124 = .ok (.iadd, 1) := by decide +kernel
theorem d_M_crossing_125 : decode b_M_crossing 125 = .ok (.iload 4, 2) := by decide +kernel
theorem d_M_crossing_127 : decode b_M_crossing 127 = .ok (.iastore, 1) := by decide +kernel
theorem d_M_crossing_128 : decode b_M_crossing 128 = .ok (.aload_n 0, 1) := by decide +kernel
theorem d_M_crossing_129 : decode b_M_crossing 129 = .ok (.getfield 13, 3) := by decide +kernel
theorem d_M_crossing_132 : decode b_M_crossing 132 = .ok (.iconst 4, 1) := by decide +kernel
theorem d_M_crossing_133 : decode b_M_crossing 133 = .ok (.aload_n 0, 1) := by decide +kernel
theorem d_M_crossing_134 : decode b_M_crossing 134 = .ok (.getfield 43, 3) := by decide +kernel
theorem d_M_crossing_137 : decode b_M_crossing 137 = .ok (.imul, 1) := by decide +kernel
theorem d_M_crossing_138 : decode b_M_crossing 138 = .ok (.iconst 3, 1) := by decide +kernel
theorem d_M_crossing_139 : decode b_M_crossing 139 = .ok (.iadd, 1) := by decide +kernel
theorem d_M_crossing_140 : decode b_M_crossing 140 = .ok (.iload 5, 2) := by decide +kernel
theorem d_M_crossing_142 : decode b_M_crossing 142 = .ok (.iastore, 1) := by decide +kernel
theorem d_M_crossing_143 : decode b_M_crossing 143 = .ok (.aload_n 0, 1) := by decide +kernel
end
section
theorem d_M_crossing_144 : decode b_M_crossing 144 = .ok (.dup, 1) := by decide +kernel
theorem d_M_crossing_145 : decode b_M_crossing 145 = .ok (.getfield 43, 3) := by decide +kernel
theorem d_M_crossing_148 : decode b_M_crossing 148 = .ok (.iconst 1, 1) := by decide +kernel
theorem d_M_crossing_149 : decode b_M_crossing 149 = .ok (.iadd, 1) := by decide +kernel
theorem d_M_crossing_150 : decode b_M_crossing 150 = .ok (.putfield 43, 3) := by decide +kernel
theorem d_M_crossing_153 : decode b_M_crossing 153 = .ok (.aload_n 0, 1) := by decide +kernel
theorem d_M_crossing_154 : decode b_M_crossing 154 = .ok (.iconst 0, 1) := by decide +kernel
theorem d_M_crossing_155 : decode b_M_crossing 155 = .ok (.putfield 46, 3) := by decide +kernel
theorem d_M_crossing_158 : decode b_M_crossing 158 = .ok (.aload_n 0, 1) := by decide +kernel
theorem d_M_crossing_159 : decode b_M_crossing 159 = .ok (.getfield 43, 3) := by decide +kernel
theorem d_M_crossing_162 : decode b_M_crossing 162 = .ok (.ireturn, 1) := by decide +kernel
theorem d_M_circles_0 : decode b_M_circles 0 = .ok (.iload_n 1, 1) := by decide +kernel
theorem d_M_circles_1 : decode b_M_circles 1 = .ok (.ifCond .lt 9, 3) := by decide +kernel
theorem d_M_circles_4 : decode b_M_circles 4 = .ok (.iload_n 1, 1) := by decide +kernel
theorem d_M_circles_5 : decode b_M_circles 5 = .ok (.bipush 9, 2) := by decide +kernel
theorem d_M_circles_7 : decode b_M_circles 7 = .ok (.if_icmp .le 5, 3) := by decide +kernel
theorem d_M_circles_10 : decode b_M_circles 10 = .ok (.iconst (-1), 1) := by decide +kernel
theorem d_M_circles_11 : decode b_M_circles 11 = .ok (.ireturn, 1) := by decide +kernel
theorem d_M_circles_12 : decode b_M_circles 12 = .ok (.aload_n 0, 1) := by decide +kernel
theorem d_M_circles_13 : decode b_M_circles 13 = .ok (.getfield 50, 3) := by decide +kernel
theorem d_M_circles_16 : decode b_M_circles 16 = .ok (.istore_n 2, 1) := by decide +kernel
theorem d_M_circles_17 : decode b_M_circles 17 = .ok (.aload_n 0, 1) := by decide +kernel
theorem d_M_circles_18 : decode b_M_circles 18 = .ok (.iload_n 1, 1) := by decide +kernel
theorem d_M_circles_19 : decode b_M_circles 19 = .ok (.putfield 50, 3) := by decide +kernel
theorem d_M_circles_22 : decode b_M_circles 22 = .ok (.aload_n 0, 1) := by decide +kernel
theorem d_M_circles_23 : decode b_M_circles 23 = .ok (.iconst 0, 1) := by decide +kernel
theorem d_M_circles_24 : decode b_M_circles 24 = .ok (.putfield 46, 3) := by decide +kernel
theorem d_M_circles_27 : decode b_M_circles 27 = .ok (.iload_n 2, 1) := by decide +kernel
theorem d_M_circles_28 : decode b_M_circles 28 = .ok (.ireturn, 1) := by decide +kernel
theorem d_M_clear_0 : decode b_M_clear 0 = .ok (.aload_n 0, 1) := by decide +kernel
theorem d_M_clear_1 : decode b_M_clear 1 = .ok (.getfield 43, 3) := by decide +kernel
theorem d_M_clear_4 : decode b_M_clear 4 = .ok (.istore_n 1, 1) := by decide +kernel
theorem d_M_clear_5 : decode b_M_clear 5 = .ok (.aload_n 0, 1) := by decide +kernel
theorem d_M_clear_6 : decode b_M_clear 6 = .ok (.iconst 0, 1) := by decide +kernel
theorem d_M_clear_7 : decode b_M_clear 7 = .ok (.putfield 43, 3) := by decide +kernel
theorem d_M_clear_10 : decode b_M_clear 10 = .ok (.aload_n 0, 1) := by decide +kernel
theorem d_M_clear_11 : decode b_M_clear 11 = .ok (.iconst 0, 1) := by decide +kernel
theorem d_M_clear_12 : decode b_M_clear 12 = .ok (.putfield 50, 3) := by decide +kernel
theorem d_M_clear_15 : decode b_M_clear 15 = .ok (.aload_n 0, 1) := by decide +kernel
theorem d_M_clear_16 : decode b_M_clear 16 = .ok (.iconst 0, 1) := by decide +kernel
theorem d_M_clear_17 : decode b_M_clear 17 = .ok (.putfield 46, 3) := by decide +kernel
theorem d_M_clear_20 : decode b_M_clear 20 = .ok (.iload_n 1, 1) := by decide +kernel
theorem d_M_clear_21 : decode b_M_clear 21 = .ok (.ireturn, 1) := by decide +kernel
theorem d_M_standing_0 : decode b_M_standing 0 = .ok (.iconst 0, 1) := by decide +kernel
theorem d_M_standing_1 : decode b_M_standing 1 = .ok (.istore_n 2, 1) := by decide +kernel
theorem d_M_standing_2 : decode b_M_standing 2 = .ok (.iconst 0, 1) := by decide +kernel
theorem d_M_standing_3 : decode b_M_standing 3 = .ok (.istore_n 3, 1) := by decide +kernel
theorem d_M_standing_4 : decode b_M_standing 4 = .ok (.iload_n 3, 1) := by decide +kernel
theorem d_M_standing_5 : decode b_M_standing 5 = .ok (.iconst 4, 1) := by decide +kernel
theorem d_M_standing_6 : decode b_M_standing 6 = .ok (.aload_n 0, 1) := by decide +kernel
theorem d_M_standing_7 : decode b_M_standing 7 = .ok (.getfield 43, 3) := by decide +kernel
theorem d_M_standing_10 : decode b_M_standing 10 = .ok (.imul, 1) := by decide +kernel
theorem d_M_standing_11 : decode b_M_standing 11 = .ok (.if_icmp .ge 27, 3) := by decide +kernel
theorem d_M_standing_14 : decode b_M_standing 14 = .ok (.iload_n 2, 1) := by decide +kernel
theorem d_M_standing_15 : decode b_M_standing 15 = .ok (.aload_n 0, 1) := by decide +kernel
theorem d_M_standing_16 : decode b_M_standing 16 = .ok (.getfield 13, 3) := by decide +kernel
theorem d_M_standing_19 : decode b_M_standing 19 = .ok (.iload_n 3, 1) := by decide +kernel
theorem d_M_standing_20 : decode b_M_standing 20 = .ok (.iaload, 1) := by decide +kernel
theorem d_M_standing_21 : decode b_M_standing 21 = .ok (.iload_n 1, 1) := by decide +kernel
theorem d_M_standing_22 : decode b_M_standing 22 = .ok (.if_icmp .ne 7, 3) := by decide +kernel
theorem d_M_standing_25 : decode b_M_standing 25 = .ok (.iconst 1, 1) := by decide +kernel
theorem d_M_standing_26 : decode b_M_standing 26 = .ok (.goto 4, 3) := by decide +kernel
theorem d_M_standing_29 : decode b_M_standing 29 = .ok (.iconst 0, 1) := by decide +kernel
theorem d_M_standing_30 : decode b_M_standing 30 = .ok (.iadd, 1) := by decide +kernel
theorem d_M_standing_31 : decode b_M_standing 31 = .ok (.istore_n 2, 1) := by decide +kernel
theorem d_M_standing_32 : decode b_M_standing 32 = .ok (.iinc 3 1, 3) := by decide +kernel
theorem d_M_standing_35 : decode b_M_standing 35 = .ok (.goto (-31), 3) := by decide +kernel
theorem d_M_standing_38 : decode b_M_standing 38 = .ok (.iload_n 2, 1) := by decide +kernel
theorem d_M_standing_39 : decode b_M_standing 39 = .ok (.ireturn, 1) := by decide +kernel
theorem d_M_fault_0 : decode b_M_fault 0 = .ok (.iconst 0, 1) := by decide +kernel
theorem d_M_fault_1 : decode b_M_fault 1 = .ok (.istore_n 1, 1) := by decide +kernel
theorem d_M_fault_2 : decode b_M_fault 2 = .ok (.iconst 0, 1) := by decide +kernel
theorem d_M_fault_3 : decode b_M_fault 3 = .ok (.istore_n 2, 1) := by decide +kernel
theorem d_M_fault_4 : decode b_M_fault 4 = .ok (.iload_n 2, 1) := by decide +kernel
theorem d_M_fault_5 : decode b_M_fault 5 = .ok (.iconst 4, 1) := by decide +kernel
theorem d_M_fault_6 : decode b_M_fault 6 = .ok (.aload_n 0, 1) := by decide +kernel
theorem d_M_fault_7 : decode b_M_fault 7 = .ok (.getfield 43, 3) := by decide +kernel
theorem d_M_fault_10 : decode b_M_fault 10 = .ok (.imul, 1) := by decide +kernel
theorem d_M_fault_11 : decode b_M_fault 11 = .ok (.if_icmp .ge 48, 3) := by decide +kernel
theorem d_M_fault_14 : decode b_M_fault 14 = .ok (.aload_n 0, 1) := by decide +kernel
theorem d_M_fault_15 : decode b_M_fault 15 = .ok (.aload_n 0, 1) := by decide +kernel
theorem d_M_fault_16 : decode b_M_fault 16 = .ok (.getfield 13, 3) := by decide +kernel
theorem d_M_fault_19 : decode b_M_fault 19 = .ok (.iload_n 2, 1) := by decide +kernel
theorem d_M_fault_20 : decode b_M_fault 20 = .ok (.iaload, 1) := by decide +kernel
theorem d_M_fault_21 : decode b_M_fault 21 = .ok (.invokevirtual 53, 3) := by decide +kernel
theorem d_M_fault_24 : decode b_M_fault 24 = .ok (.iconst 2, 1) := by decide +kernel
theorem d_M_fault_25 : decode b_M_fault 25 = .ok (.if_icmp .eq 26, 3) := by decide +kernel
theorem d_M_fault_28 : decode b_M_fault 28 = .ok (.iload_n 1, 1) := by decide +kernel
theorem d_M_fault_29 : decode b_M_fault 29 = .ok (.ifCond .eq 13, 3) := by decide +kernel
theorem d_M_fault_32 : decode b_M_fault 32 = .ok (.aload_n 0, 1) := by decide +kernel
theorem d_M_fault_33 : decode b_M_fault 33 = .ok (.getfield 13, 3) := by decide +kernel
theorem d_M_fault_36 : decode b_M_fault 36 = .ok (.iload_n 2, 1) := by decide +kernel
theorem d_M_fault_37 : decode b_M_fault 37 = .ok (.iaload, 1) := by decide +kernel
theorem d_M_fault_38 : decode b_M_fault 38 = .ok (.iload_n 1, 1) := by decide +kernel
theorem d_M_fault_39 : decode b_M_fault 39 = .ok (.if_icmp .ge 12, 3) := by decide +kernel
theorem d_M_fault_42 : decode b_M_fault 42 = .ok (.aload_n 0, 1) := by decide +kernel
theorem d_M_fault_43 : decode b_M_fault 43 = .ok (.getfield 13, 3) := by decide +kernel
theorem d_M_fault_46 : decode b_M_fault 46 = .ok (.iload_n 2, 1) := by decide +kernel
theorem d_M_fault_47 : decode b_M_fault 47 = .ok (.iaload, 1) := by decide +kernel
theorem d_M_fault_48 : decode b_M_fault 48 = .ok (.goto 4, 3) := by decide +kernel
theorem d_M_fault_51 : decode b_M_fault 51 = .ok (.iload_n 1, 1) := by decide +kernel
theorem d_M_fault_52 : decode b_M_fault 52 = .ok (.istore_n 1, 1) := by decide +kernel
theorem d_M_fault_53 : decode b_M_fault 53 = .ok (.iinc 2 1, 3) := by decide +kernel
theorem d_M_fault_56 : decode b_M_fault 56 = .ok (.goto (-52), 3) := by decide +kernel
theorem d_M_fault_59 : decode b_M_fault 59 = .ok (.iload_n 1, 1) := by decide +kernel
theorem d_M_fault_60 : decode b_M_fault 60 = .ok (.ireturn, 1) := by decide +kernel
theorem d_M_findMates_0 : decode b_M_findMates 0 = .ok (.iconst 0, 1) := by decide +kernel
theorem d_M_findMates_1 : decode b_M_findMates 1 = .ok (.istore_n 1, 1) := by decide +kernel
theorem d_M_findMates_2 : decode b_M_findMates 2 = .ok (.iload_n 1, 1) := by decide +kernel
theorem d_M_findMates_3 : decode b_M_findMates 3 = .ok (.iconst 4, 1) := by decide +kernel
theorem d_M_findMates_4 : decode b_M_findMates 4 = .ok (.aload_n 0, 1) := by decide +kernel
theorem d_M_findMates_5 : decode b_M_findMates 5 = .ok (.getfield 43, 3) := by decide +kernel
theorem d_M_findMates_8 : decode b_M_findMates 8 = .ok (.imul, 1) := by decide +kernel
theorem d_M_findMates_9 : decode b_M_findMates 9 = .ok (.if_icmp .ge 63, 3) := by decide +kernel
theorem d_M_findMates_12 : decode b_M_findMates 12 = .ok (.iconst 0, 1) := by decide +kernel
theorem d_M_findMates_13 : decode b_M_findMates 13 = .ok (.istore_n 2, 1) := by decide +kernel
theorem d_M_findMates_14 : decode b_M_findMates 14 = .ok (.iload_n 2, 1) := by decide +kernel
theorem d_M_findMates_15 : decode b_M_findMates 15 = .ok (.iconst 4, 1) := by decide +kernel
theorem d_M_findMates_16 : decode b_M_findMates 16 = .ok (.aload_n 0, 1) := by decide +kernel
theorem d_M_findMates_17 : decode b_M_findMates 17 = .ok (.getfield 43, 3) := by decide +kernel
theorem d_M_findMates_20 : decode b_M_findMates 20 = .ok (.imul, 1) := by decide +kernel
theorem d_M_findMates_21 : decode b_M_findMates 21 = .ok (.if_icmp .ge 45, 3) := by decide +kernel
theorem d_M_findMates_24 : decode b_M_findMates 24 = .ok (.aload_n 0, 1) := by decide +kernel
theorem d_M_findMates_25 : decode b_M_findMates 25 = .ok (.getfield 16, 3) := by decide +kernel
theorem d_M_findMates_28 : decode b_M_findMates 28 = .ok (.iload_n 1, 1) := by decide +kernel
theorem d_M_findMates_29 : decode b_M_findMates 29 = .ok (.iload_n 1, 1) := by decide +kernel
theorem d_M_findMates_30 : decode b_M_findMates 30 = .ok (.iload_n 2, 1) := by decide +kernel
theorem d_M_findMates_31 : decode b_M_findMates 31 = .ok (.if_icmp .eq 22, 3) := by decide +kernel
theorem d_M_findMates_34 : decode b_M_findMates 34 = .ok (.aload_n 0, 1) := by decide +kernel
theorem d_M_findMates_35 : decode b_M_findMates 35 = .ok (.getfield 13, 3) := by decide +kernel
theorem d_M_findMates_38 : decode b_M_findMates 38 = .ok (.iload_n 1, 1) := by decide +kernel
theorem d_M_findMates_39 : decode b_M_findMates 39 = .ok (.iaload, 1) := by decide +kernel
theorem d_M_findMates_40 : decode b_M_findMates 40 = .ok (.aload_n 0, 1) := by decide +kernel
theorem d_M_findMates_41 : decode b_M_findMates 41 = .ok (.getfield 13, 3) := by decide +kernel
theorem d_M_findMates_44 : decode b_M_findMates 44 = .ok (.iload_n 2, 1) := by decide +kernel
theorem d_M_findMates_45 : decode b_M_findMates 45 = .ok (.iaload, 1) := by decide +kernel
theorem d_M_findMates_46 : decode b_M_findMates 46 = .ok (.if_icmp .ne 7, 3) := by decide +kernel
theorem d_M_findMates_49 : decode b_M_findMates 49 = .ok (.iload_n 2, 1) := by decide +kernel
theorem d_M_findMates_50 : decode b_M_findMates 50 = .ok (.goto 9, 3) := by decide +kernel
theorem d_M_findMates_53 : decode b_M_findMates 53 = .ok (.aload_n 0, 1) := by decide +kernel
theorem d_M_findMates_54 : decode b_M_findMates 54 = .ok (.getfield 16, 3) := by decide +kernel
theorem d_M_findMates_57 : decode b_M_findMates 57 = .ok (.iload_n 1, 1) := by decide +kernel
theorem d_M_findMates_58 : decode b_M_findMates 58 = .ok (.iaload, 1) := by decide +kernel
theorem d_M_findMates_59 : decode b_M_findMates 59 = .ok (.iastore, 1) := by decide +kernel
theorem d_M_findMates_60 : decode b_M_findMates 60 = .ok (.iinc 2 1, 3) := by decide +kernel
theorem d_M_findMates_63 : decode b_M_findMates 63 = .ok (.goto (-49), 3) := by decide +kernel
theorem d_M_findMates_66 : decode b_M_findMates 66 = .ok (.iinc 1 1, 3) := by decide +kernel
theorem d_M_findMates_69 : decode b_M_findMates 69 = .ok (.goto (-67), 3) := by decide +kernel
theorem d_M_findMates_72 : decode b_M_findMates 72 = .ok (.return_, 1) := by decide +kernel
theorem d_M_joined_0 : decode b_M_joined 0 = .ok (.iload_n 0, 1) := by decide +kernel
theorem d_M_joined_1 : decode b_M_joined 1 = .ok (.iconst 4, 1) := by decide +kernel
theorem d_M_joined_2 : decode b_M_joined 2 = .ok (.irem, 1) := by decide +kernel
theorem d_M_joined_3 : decode b_M_joined 3 = .ok (.istore_n 2, 1) := by decide +kernel
theorem d_M_joined_4 : decode b_M_joined 4 = .ok (.iload_n 0, 1) := by decide +kernel
theorem d_M_joined_5 : decode b_M_joined 5 = .ok (.iload_n 2, 1) := by decide +kernel
theorem d_M_joined_6 : decode b_M_joined 6 = .ok (.isub, 1) := by decide +kernel
theorem d_M_joined_7 : decode b_M_joined 7 = .ok (.iload_n 1, 1) := by decide +kernel
theorem d_M_joined_8 : decode b_M_joined 8 = .ok (.ifCond .eq 9, 3) := by decide +kernel
theorem d_M_joined_11 : decode b_M_joined 11 = .ok (.iconst 3, 1) := by decide +kernel
theorem d_M_joined_12 : decode b_M_joined 12 = .ok (.iload_n 2, 1) := by decide +kernel
theorem d_M_joined_13 : decode b_M_joined 13 = .ok (.isub, 1) := by decide +kernel
theorem d_M_joined_14 : decode b_M_joined 14 = .ok (.goto 18, 3) := by decide +kernel
theorem d_M_joined_17 : decode b_M_joined 17 = .ok (.iload_n 2, 1) := by decide +kernel
theorem d_M_joined_18 : decode b_M_joined 18 = .ok (.iconst 2, 1) := by decide +kernel
theorem d_M_joined_19 : decode b_M_joined 19 = .ok (.irem, 1) := by decide +kernel
theorem d_M_joined_20 : decode b_M_joined 20 = .ok (.ifCond .ne 9, 3) := by decide +kernel
theorem d_M_joined_23 : decode b_M_joined 23 = .ok (.iload_n 2, 1) := by decide +kernel
theorem d_M_joined_24 : decode b_M_joined 24 = .ok (.iconst 1, 1) := by decide +kernel
theorem d_M_joined_25 : decode b_M_joined 25 = .ok (.iadd, 1) := by decide +kernel
theorem d_M_joined_26 : decode b_M_joined 26 = .ok (.goto 6, 3) := by decide +kernel
theorem d_M_joined_29 : decode b_M_joined 29 = .ok (.iload_n 2, 1) := by decide +kernel
theorem d_M_joined_30 : decode b_M_joined 30 = .ok (.iconst 1, 1) := by decide +kernel
theorem d_M_joined_31 : decode b_M_joined 31 = .ok (.isub, 1) := by decide +kernel
theorem d_M_joined_32 : decode b_M_joined 32 = .ok (.iadd, 1) := by decide +kernel
theorem d_M_joined_33 : decode b_M_joined 33 = .ok (.ireturn, 1) := by decide +kernel
theorem d_M_ways_0 : decode b_M_ways 0 = .ok (.aload_n 0, 1) := by decide +kernel
theorem d_M_ways_1 : decode b_M_ways 1 = .ok (.getfield 50, 3) := by decide +kernel
theorem d_M_ways_4 : decode b_M_ways 4 = .ok (.istore_n 2, 1) := by decide +kernel
theorem d_M_ways_5 : decode b_M_ways 5 = .ok (.iconst 0, 1) := by decide +kernel
theorem d_M_ways_6 : decode b_M_ways 6 = .ok (.istore_n 3, 1) := by decide +kernel
theorem d_M_ways_7 : decode b_M_ways 7 = .ok (.iload_n 3, 1) := by decide +kernel
theorem d_M_ways_8 : decode b_M_ways 8 = .ok (.iconst 4, 1) := by decide +kernel
theorem d_M_ways_9 : decode b_M_ways 9 = .ok (.aload_n 0, 1) := by decide +kernel
theorem d_M_ways_10 : decode b_M_ways 10 = .ok (.getfield 43, 3) := by decide +kernel
theorem d_M_ways_13 : decode b_M_ways 13 = .ok (.imul, 1) := by decide +kernel
theorem d_M_ways_14 : decode b_M_ways 14 = .ok (.if_icmp .ge 16, 3) := by decide +kernel
theorem d_M_ways_17 : decode b_M_ways 17 = .ok (.aload_n 0, 1) := by decide +kernel
theorem d_M_ways_18 : decode b_M_ways 18 = .ok (.getfield 19, 3) := by decide +kernel
theorem d_M_ways_21 : decode b_M_ways 21 = .ok (.iload_n 3, 1) := by decide +kernel
theorem d_M_ways_22 : decode b_M_ways 22 = .ok (.iconst 0, 1) := by decide +kernel
theorem d_M_ways_23 : decode b_M_ways 23 = .ok (.bastore, 1) := by decide +kernel
theorem d_M_ways_24 : decode b_M_ways 24 = .ok (.iinc 3 1, 3) := by decide +kernel
theorem d_M_ways_27 : decode b_M_ways 27 = .ok (.goto (-20), 3) := by decide +kernel
theorem d_M_ways_30 : decode b_M_ways 30 = .ok (.iconst 0, 1) := by decide +kernel
theorem d_M_ways_31 : decode b_M_ways 31 = .ok (.istore_n 3, 1) := by decide +kernel
theorem d_M_ways_32 : decode b_M_ways 32 = .ok (.iload_n 3, 1) := by decide +kernel
theorem d_M_ways_33 : decode b_M_ways 33 = .ok (.iconst 4, 1) := by decide +kernel
theorem d_M_ways_34 : decode b_M_ways 34 = .ok (.aload_n 0, 1) := by decide +kernel
theorem d_M_ways_35 : decode b_M_ways 35 = .ok (.getfield 43, 3) := by decide +kernel
theorem d_M_ways_38 : decode b_M_ways 38 = .ok (.imul, 1) := by decide +kernel
theorem d_M_ways_39 : decode b_M_ways 39 = .ok (.if_icmp .ge 91, 3) := by decide +kernel
theorem d_M_ways_42 : decode b_M_ways 42 = .ok (.iload_n 2, 1) := by decide +kernel
theorem d_M_ways_43 : decode b_M_ways 43 = .ok (.aload_n 0, 1) := by decide +kernel
theorem d_M_ways_44 : decode b_M_ways 44 = .ok (.getfield 19, 3) := by decide +kernel
theorem d_M_ways_47 : decode b_M_ways 47 = .ok (.iload_n 3, 1) := by decide +kernel
theorem d_M_ways_48 : decode b_M_ways 48 = .ok (.baload, 1) := by decide +kernel
theorem d_M_ways_49 : decode b_M_ways 49 = .ok (.ifCond .eq 7, 3) := by decide +kernel
theorem d_M_ways_52 : decode b_M_ways 52 = .ok (.iconst 0, 1) := by decide +kernel
theorem d_M_ways_53 : decode b_M_ways 53 = .ok (.goto 4, 3) := by decide +kernel
theorem d_M_ways_56 : decode b_M_ways 56 = .ok (.iconst 1, 1) := by decide +kernel
theorem d_M_ways_57 : decode b_M_ways 57 = .ok (.iadd, 1) := by decide +kernel
theorem d_M_ways_58 : decode b_M_ways 58 = .ok (.istore_n 2, 1) := by decide +kernel
theorem d_M_ways_59 : decode b_M_ways 59 = .ok (.iload_n 3, 1) := by decide +kernel
theorem d_M_ways_60 : decode b_M_ways 60 = .ok (.istore 4, 2) := by decide +kernel
theorem d_M_ways_62 : decode b_M_ways 62 = .ok (.aload_n 0, 1) := by decide +kernel
theorem d_M_ways_63 : decode b_M_ways 63 = .ok (.getfield 19, 3) := by decide +kernel
theorem d_M_ways_66 : decode b_M_ways 66 = .ok (.iload 4, 2) := by decide +kernel
theorem d_M_ways_68 : decode b_M_ways 68 = .ok (.baload, 1) := by decide +kernel
theorem d_M_ways_69 : decode b_M_ways 69 = .ok (.ifCond .ne 55, 3) := by decide +kernel
theorem d_M_ways_72 : decode b_M_ways 72 = .ok (.aload_n 0, 1) := by decide +kernel
theorem d_M_ways_73 : decode b_M_ways 73 = .ok (.getfield 19, 3) := by decide +kernel
theorem d_M_ways_76 : decode b_M_ways 76 = .ok (.iload 4, 2) := by decide +kernel
theorem d_M_ways_78 : decode b_M_ways 78 = .ok (.iconst 1, 1) := by decide +kernel
theorem d_M_ways_79 : decode b_M_ways 79 = .ok (.bastore, 1) := by decide +kernel
theorem d_M_ways_80 : decode b_M_ways 80 = .ok (.iload 4, 2) := by decide +kernel
theorem d_M_ways_82 : decode b_M_ways 82 = .ok (.iload_n 1, 1) := by decide +kernel
theorem d_M_ways_83 : decode b_M_ways 83 = .ok (.iload 4, 2) := by decide +kernel
theorem d_M_ways_85 : decode b_M_ways 85 = .ok (.iconst 4, 1) := by decide +kernel
theorem d_M_ways_86 : decode b_M_ways 86 = .ok (.idiv, 1) := by decide +kernel
theorem d_M_ways_87 : decode b_M_ways 87 = .ok (.ishr, 1) := by decide +kernel
theorem d_M_ways_88 : decode b_M_ways 88 = .ok (.iconst 1, 1) := by decide +kernel
theorem d_M_ways_89 : decode b_M_ways 89 = .ok (.iand, 1) := by decide +kernel
theorem d_M_ways_90 : decode b_M_ways 90 = .ok (.iconst 1, 1) := by decide +kernel
theorem d_M_ways_91 : decode b_M_ways 91 = .ok (.if_icmp .ne 7, 3) := by decide +kernel
theorem d_M_ways_94 : decode b_M_ways 94 = .ok (.iconst 1, 1) := by decide +kernel
theorem d_M_ways_95 : decode b_M_ways 95 = .ok (.goto 4, 3) := by decide +kernel
theorem d_M_ways_98 : decode b_M_ways 98 = .ok (.iconst 0, 1) := by decide +kernel
theorem d_M_ways_99 : decode b_M_ways 99 = .ok (.invokestatic 57, 3) := by decide +kernel
theorem d_M_ways_102 : decode b_M_ways 102 = .ok (.istore 5, 2) := by decide +kernel
theorem d_M_ways_104 : decode b_M_ways 104 = .ok (.aload_n 0, 1) := by decide +kernel
theorem d_M_ways_105 : decode b_M_ways 105 = .ok (.getfield 19, 3) := by decide +kernel
theorem d_M_ways_108 : decode b_M_ways 108 = .ok (.iload 5, 2) := by decide +kernel
theorem d_M_ways_110 : decode b_M_ways 110 = .ok (.iconst 1, 1) := by decide +kernel
theorem d_M_ways_111 : decode b_M_ways 111 = .ok (.bastore, 1) := by decide +kernel
theorem d_M_ways_112 : decode b_M_ways 112 = .ok (.aload_n 0, 1) := by decide +kernel
theorem d_M_ways_113 : decode b_M_ways 113 = .ok (.getfield 16, 3) := by decide +kernel
theorem d_M_ways_116 : decode b_M_ways 116 = .ok (.iload 5, 2) := by decide +kernel
theorem d_M_ways_118 : decode b_M_ways 118 = .ok (.iaload, 1) := by decide +kernel
theorem d_M_ways_119 : decode b_M_ways 119 = .ok (.istore 4, 2) := by decide +kernel
theorem d_M_ways_121 : decode b_M_ways 121 = .ok (.goto (-59), 3) := by decide +kernel
theorem d_M_ways_124 : decode b_M_ways 124 = .ok (.iinc 3 1, 3) := by decide +kernel
theorem d_M_ways_127 : decode b_M_ways 127 = .ok (.goto (-95), 3) := by decide +kernel
theorem d_M_ways_130 : decode b_M_ways 130 = .ok (.iload_n 2, 1) := by decide +kernel
theorem d_M_ways_131 : decode b_M_ways 131 = .ok (.ireturn, 1) := by decide +kernel
theorem d_M_state_0 : decode b_M_state 0 = .ok (.aload_n 0, 1) := by decide +kernel
theorem d_M_state_1 : decode b_M_state 1 = .ok (.invokevirtual 61, 3) := by decide +kernel
theorem d_M_state_4 : decode b_M_state 4 = .ok (.ifCond .gt 17, 3) := by decide +kernel
theorem d_M_state_7 : decode b_M_state 7 = .ok (.iload_n 1, 1) := by decide +kernel
theorem d_M_state_8 : decode b_M_state 8 = .ok (.ifCond .lt 13, 3) := by decide +kernel
theorem d_M_state_11 : decode b_M_state 11 = .ok (.iload_n 1, 1) := by decide +kernel
theorem d_M_state_12 : decode b_M_state 12 = .ok (.iconst 1, 1) := by decide +kernel
theorem d_M_state_13 : decode b_M_state 13 = .ok (.aload_n 0, 1) := by decide +kernel
theorem d_M_state_14 : decode b_M_state 14 = .ok (.getfield 43, 3) := by decide +kernel
theorem d_M_state_17 : decode b_M_state 17 = .ok (.ishl, 1) := by decide +kernel
theorem d_M_state_18 : decode b_M_state 18 = .ok (.if_icmp .lt 5, 3) := by decide +kernel
theorem d_M_state_21 : decode b_M_state 21 = .ok (.iconst (-1), 1) := by decide +kernel
theorem d_M_state_22 : decode b_M_state 22 = .ok (.ireturn, 1) := by decide +kernel
theorem d_M_state_23 : decode b_M_state 23 = .ok (.aload_n 0, 1) := by decide +kernel
theorem d_M_state_24 : decode b_M_state 24 = .ok (.invokevirtual 65, 3) := by decide +kernel
theorem d_M_state_27 : decode b_M_state 27 = .ok (.aload_n 0, 1) := by decide +kernel
theorem d_M_state_28 : decode b_M_state 28 = .ok (.iload_n 1, 1) := by decide +kernel
theorem d_M_state_29 : decode b_M_state 29 = .ok (.invokevirtual 68, 3) := by decide +kernel
theorem d_M_state_32 : decode b_M_state 32 = .ok (.ireturn, 1) := by decide +kernel
theorem d_M_bits_0 : decode b_M_bits 0 = .ok (.iconst 0, 1) := by decide +kernel
theorem d_M_bits_1 : decode b_M_bits 1 = .ok (.istore_n 1, 1) := by decide +kernel
theorem d_M_bits_2 : decode b_M_bits 2 = .ok (.iconst 0, 1) := by decide +kernel
theorem d_M_bits_3 : decode b_M_bits 3 = .ok (.istore_n 2, 1) := by decide +kernel
theorem d_M_bits_4 : decode b_M_bits 4 = .ok (.iload_n 2, 1) := by decide +kernel
theorem d_M_bits_5 : decode b_M_bits 5 = .ok (.bipush 10, 2) := by decide +kernel
theorem d_M_bits_7 : decode b_M_bits 7 = .ok (.if_icmp .ge 17, 3) := by decide +kernel
theorem d_M_bits_10 : decode b_M_bits 10 = .ok (.iload_n 1, 1) := by decide +kernel
theorem d_M_bits_11 : decode b_M_bits 11 = .ok (.iload_n 0, 1) := by decide +kernel
theorem d_M_bits_12 : decode b_M_bits 12 = .ok (.iload_n 2, 1) := by decide +kernel
theorem d_M_bits_13 : decode b_M_bits 13 = .ok (.ishr, 1) := by decide +kernel
theorem d_M_bits_14 : decode b_M_bits 14 = .ok (.iconst 1, 1) := by decide +kernel
theorem d_M_bits_15 : decode b_M_bits 15 = .ok (.iand, 1) := by decide +kernel
theorem d_M_bits_16 : decode b_M_bits 16 = .ok (.iadd, 1) := by decide +kernel
theorem d_M_bits_17 : decode b_M_bits 17 = .ok (.istore_n 1, 1) := by decide +kernel
theorem d_M_bits_18 : decode b_M_bits 18 = .ok (.iinc 2 1, 3) := by decide +kernel
theorem d_M_bits_21 : decode b_M_bits 21 = .ok (.goto (-17), 3) := by decide +kernel
theorem d_M_bits_24 : decode b_M_bits 24 = .ok (.iload_n 1, 1) := by decide +kernel
theorem d_M_bits_25 : decode b_M_bits 25 = .ok (.ireturn, 1) := by decide +kernel
theorem d_M_expand_0 : decode b_M_expand 0 = .ok (.iconst 0, 1) := by decide +kernel
theorem d_M_expand_1 : decode b_M_expand 1 = .ok (.istore 4, 2) := by decide +kernel
theorem d_M_expand_3 : decode b_M_expand 3 = .ok (.iload 4, 2) := by decide +kernel
theorem d_M_expand_5 : decode b_M_expand 5 = .ok (.iload_n 3, 1) := by decide +kernel
theorem d_M_expand_6 : decode b_M_expand 6 = .ok (.if_icmp .gt 17, 3) := by decide +kernel
theorem d_M_expand_9 : decode b_M_expand 9 = .ok (.aload_n 0, 1) := by decide +kernel
theorem d_M_expand_10 : decode b_M_expand 10 = .ok (.getfield 33, 3) := by decide +kernel
theorem d_M_expand_13 : decode b_M_expand 13 = .ok (.iload 4, 2) := by decide +kernel
theorem d_M_expand_15 : decode b_M_expand 15 = .ok (.lconst 0, 1) := by decide +kernel
theorem d_M_expand_16 : decode b_M_expand 16 = .ok (.lastore, 1) := by decide +kernel
theorem d_M_expand_17 : decode b_M_expand 17 = .ok (.iinc 4 1, 3) := by decide +kernel
theorem d_M_expand_20 : decode b_M_expand 20 = .ok (.goto (-17), 3) := by decide +kernel
theorem d_M_expand_23 : decode b_M_expand 23 = .ok (.aload_n 0, 1) := by decide +kernel
theorem d_M_expand_24 : decode b_M_expand 24 = .ok (.getfield 33, 3) := by decide +kernel
theorem d_M_expand_27 : decode b_M_expand 27 = .ok (.iconst 0, 1) := by decide +kernel
theorem d_M_expand_28 : decode b_M_expand 28 = .ok (.lconst 1, 1) := by decide +kernel
theorem d_M_expand_29 : decode b_M_expand 29 = .ok (.lastore, 1) := by decide +kernel
theorem d_M_expand_30 : decode b_M_expand 30 = .ok (.iconst 1, 1) := by decide +kernel
theorem d_M_expand_31 : decode b_M_expand 31 = .ok (.istore 4, 2) := by decide +kernel
theorem d_M_expand_33 : decode b_M_expand 33 = .ok (.iload 4, 2) := by decide +kernel
theorem d_M_expand_35 : decode b_M_expand 35 = .ok (.iload_n 3, 1) := by decide +kernel
theorem d_M_expand_36 : decode b_M_expand 36 = .ok (.if_icmp .gt 48, 3) := by decide +kernel
theorem d_M_expand_39 : decode b_M_expand 39 = .ok (.iload 4, 2) := by decide +kernel
theorem d_M_expand_41 : decode b_M_expand 41 = .ok (.istore 5, 2) := by decide +kernel
theorem d_M_expand_43 : decode b_M_expand 43 = .ok (.iload 5, 2) := by decide +kernel
theorem d_M_expand_45 : decode b_M_expand 45 = .ok (.ifCond .le 33, 3) := by decide +kernel
theorem d_M_expand_48 : decode b_M_expand 48 = .ok (.aload_n 0, 1) := by decide +kernel
theorem d_M_expand_49 : decode b_M_expand 49 = .ok (.getfield 33, 3) := by decide +kernel
theorem d_M_expand_52 : decode b_M_expand 52 = .ok (.iload 5, 2) := by decide +kernel
theorem d_M_expand_54 : decode b_M_expand 54 = .ok (.aload_n 0, 1) := by decide +kernel
theorem d_M_expand_55 : decode b_M_expand 55 = .ok (.getfield 33, 3) := by decide +kernel
theorem d_M_expand_58 : decode b_M_expand 58 = .ok (.iload 5, 2) := by decide +kernel
theorem d_M_expand_60 : decode b_M_expand 60 = .ok (.laload, 1) := by decide +kernel
theorem d_M_expand_61 : decode b_M_expand 61 = .ok (.aload_n 0, 1) := by decide +kernel
theorem d_M_expand_62 : decode b_M_expand 62 = .ok (.getfield 33, 3) := by decide +kernel
theorem d_M_expand_65 : decode b_M_expand 65 = .ok (.iload 5, 2) := by decide +kernel
theorem d_M_expand_67 : decode b_M_expand 67 = .ok (.iconst 1, 1) := by decide +kernel
theorem d_M_expand_68 : decode b_M_expand 68 = .ok (.isub, 1) := by decide +kernel
theorem d_M_expand_69 : decode b_M_expand 69 = .ok (.laload, 1) := by decide +kernel
theorem d_M_expand_70 : decode b_M_expand 70 = .ok (.ladd, 1) := by decide +kernel
theorem d_M_expand_71 : decode b_M_expand 71 = .ok (.lastore, 1) := by decide +kernel
theorem d_M_expand_72 : decode b_M_expand 72 = .ok (.iinc 5 (-1), 3) := by decide +kernel
theorem d_M_expand_75 : decode b_M_expand 75 = .ok (.goto (-32), 3) := by decide +kernel
theorem d_M_expand_78 : decode b_M_expand 78 = .ok (.iinc 4 1, 3) := by decide +kernel
theorem d_M_expand_81 : decode b_M_expand 81 = .ok (.goto (-48), 3) := by decide +kernel
theorem d_M_expand_84 : decode b_M_expand 84 = .ok (.iconst 0, 1) := by decide +kernel
theorem d_M_expand_85 : decode b_M_expand 85 = .ok (.istore 4, 2) := by decide +kernel
theorem d_M_expand_87 : decode b_M_expand 87 = .ok (.iload 4, 2) := by decide +kernel
theorem d_M_expand_89 : decode b_M_expand 89 = .ok (.iload_n 3, 1) := by decide +kernel
theorem d_M_expand_90 : decode b_M_expand 90 = .ok (.if_icmp .gt 61, 3) := by decide +kernel
theorem d_M_expand_93 : decode b_M_expand 93 = .ok (.sipush 128, 3) := by decide +kernel
theorem d_M_expand_96 : decode b_M_expand 96 = .ok (.iload_n 2, 1) := by decide +kernel
theorem d_M_expand_97 : decode b_M_expand 97 = .ok (.iadd, 1) := by decide +kernel
theorem d_M_expand_98 : decode b_M_expand 98 = .ok (.iconst 2, 1) := by decide +kernel
theorem d_M_expand_99 : decode b_M_expand 99 = .ok (.iload_n 3, 1) := by decide +kernel
theorem d_M_expand_100 : decode b_M_expand 100 = .ok (.imul, 1) := by decide +kernel
theorem d_M_expand_101 : decode b_M_expand 101 = .ok (.iadd, 1) := by decide +kernel
theorem d_M_expand_102 : decode b_M_expand 102 = .ok (.iconst 4, 1) := by decide +kernel
theorem d_M_expand_103 : decode b_M_expand 103 = .ok (.iload 4, 2) := by decide +kernel
theorem d_M_expand_105 : decode b_M_expand 105 = .ok (.imul, 1) := by decide +kernel
theorem d_M_expand_106 : decode b_M_expand 106 = .ok (.isub, 1) := by decide +kernel
theorem d_M_expand_107 : decode b_M_expand 107 = .ok (.istore 5, 2) := by decide +kernel
theorem d_M_expand_109 : decode b_M_expand 109 = .ok (.aload_n 0, 1) := by decide +kernel
theorem d_M_expand_110 : decode b_M_expand 110 = .ok (.getfield 26, 3) := by decide +kernel
theorem d_M_expand_113 : decode b_M_expand 113 = .ok (.iload 5, 2) := by decide +kernel
theorem d_M_expand_115 : decode b_M_expand 115 = .ok (.aload_n 0, 1) := by decide +kernel
theorem d_M_expand_116 : decode b_M_expand 116 = .ok (.getfield 26, 3) := by decide +kernel
theorem d_M_expand_119 : decode b_M_expand 119 = .ok (.iload 5, 2) := by decide +kernel
theorem d_M_expand_121 : decode b_M_expand 121 = .ok (.laload, 1) := by decide +kernel
theorem d_M_expand_122 : decode b_M_expand 122 = .ok (.iload_n 3, 1) := by decide +kernel
theorem d_M_expand_123 : decode b_M_expand 123 = .ok (.iconst 2, 1) := by decide +kernel
theorem d_M_expand_124 : decode b_M_expand 124 = .ok (.irem, 1) := by decide +kernel
theorem d_M_expand_125 : decode b_M_expand 125 = .ok (.ifCond .ne 7, 3) := by decide +kernel
theorem d_M_expand_128 : decode b_M_expand 128 = .ok (.iload_n 1, 1) := by decide +kernel
theorem d_M_expand_129 : decode b_M_expand 129 = .ok (.goto 5, 3) := by decide +kernel
theorem d_M_expand_132 : decode b_M_expand 132 = .ok (.iload_n 1, 1) := by decide +kernel
theorem d_M_expand_133 : decode b_M_expand 133 = .ok (.ineg, 1) := by decide +kernel
theorem d_M_expand_134 : decode b_M_expand 134 = .ok (.i2l, 1) := by decide +kernel
theorem d_M_expand_135 : decode b_M_expand 135 = .ok (.aload_n 0, 1) := by decide +kernel
theorem d_M_expand_136 : decode b_M_expand 136 = .ok (.getfield 33, 3) := by decide +kernel
theorem d_M_expand_139 : decode b_M_expand 139 = .ok (.iload 4, 2) := by decide +kernel
theorem d_M_expand_141 : decode b_M_expand 141 = .ok (.laload, 1) := by decide +kernel
theorem d_M_expand_142 : decode b_M_expand 142 = .ok (.lmul, 1) := by decide +kernel
theorem d_M_expand_143 : decode b_M_expand 143 = .ok (.ladd, 1) := by decide +kernel
theorem d_M_expand_144 : decode b_M_expand 144 = .ok (.lastore, 1) := by decide +kernel
theorem d_M_expand_145 : decode b_M_expand 145 = .ok (.iinc 4 1, 3) := by decide +kernel
theorem d_M_expand_148 : decode b_M_expand 148 = .ok (.goto (-61), 3) := by decide +kernel
theorem d_M_expand_151 : decode b_M_expand 151 = .ok (.return_, 1) := by decide +kernel
theorem d_M_know_0 : decode b_M_know 0 = .ok (.aload_n 0, 1) := by decide +kernel
theorem d_M_know_1 : decode b_M_know 1 = .ok (.getfield 46, 3) := by decide +kernel
theorem d_M_know_4 : decode b_M_know 4 = .ok (.ifCond .eq 4, 3) := by decide +kernel
theorem d_M_know_7 : decode b_M_know 7 = .ok (.return_, 1) := by decide +kernel
theorem d_M_know_8 : decode b_M_know 8 = .ok (.aload_n 0, 1) := by decide +kernel
theorem d_M_know_9 : decode b_M_know 9 = .ok (.iconst 1, 1) := by decide +kernel
theorem d_M_know_10 : decode b_M_know 10 = .ok (.putfield 46, 3) := by decide +kernel
theorem d_M_know_13 : decode b_M_know 13 = .ok (.iconst 0, 1) := by decide +kernel
theorem d_M_know_14 : decode b_M_know 14 = .ok (.istore_n 1, 1) := by decide +kernel
theorem d_M_know_15 : decode b_M_know 15 = .ok (.iload_n 1, 1) := by decide +kernel
theorem d_M_know_16 : decode b_M_know 16 = .ok (.sipush 260, 3) := by decide +kernel
theorem d_M_know_19 : decode b_M_know 19 = .ok (.if_icmp .ge 16, 3) := by decide +kernel
theorem d_M_know_22 : decode b_M_know 22 = .ok (.aload_n 0, 1) := by decide +kernel
theorem d_M_know_23 : decode b_M_know 23 = .ok (.getfield 26, 3) := by decide +kernel
theorem d_M_know_26 : decode b_M_know 26 = .ok (.iload_n 1, 1) := by decide +kernel
theorem d_M_know_27 : decode b_M_know 27 = .ok (.lconst 0, 1) := by decide +kernel
theorem d_M_know_28 : decode b_M_know 28 = .ok (.lastore, 1) := by decide +kernel
theorem d_M_know_29 : decode b_M_know 29 = .ok (.iinc 1 1, 3) := by decide +kernel
theorem d_M_know_32 : decode b_M_know 32 = .ok (.goto (-17), 3) := by decide +kernel
theorem d_M_know_35 : decode b_M_know 35 = .ok (.aload_n 0, 1) := by decide +kernel
end
section
theorem d_M_know_36 : decode b_M_know 36 = .ok (.invokevirtual 61, 3) := by decide +kernel
theorem d_M_know_39 : decode b_M_know 39 = .ok (.ifCond .le 4, 3) := by decide +kernel
theorem d_M_know_42 : decode b_M_know 42 = .ok (.return_, 1) := by decide +kernel
theorem d_M_know_43 : decode b_M_know 43 = .ok (.aload_n 0, 1) := by decide +kernel
theorem d_M_know_44 : decode b_M_know 44 = .ok (.getfield 43, 3) := by decide +kernel
theorem d_M_know_47 : decode b_M_know 47 = .ok (.aload_n 0, 1) := by decide +kernel
theorem d_M_know_48 : decode b_M_know 48 = .ok (.getfield 50, 3) := by decide +kernel
theorem d_M_know_51 : decode b_M_know 51 = .ok (.iadd, 1) := by decide +kernel
theorem d_M_know_52 : decode b_M_know 52 = .ok (.ifCond .ne 13, 3) := by decide +kernel
theorem d_M_know_55 : decode b_M_know 55 = .ok (.aload_n 0, 1) := by decide +kernel
theorem d_M_know_56 : decode b_M_know 56 = .ok (.getfield 26, 3) := by decide +kernel
theorem d_M_know_59 : decode b_M_know 59 = .ok (.sipush 128, 3) := by decide +kernel
theorem d_M_know_62 : decode b_M_know 62 = .ok (.lconst 1, 1) := by decide +kernel
theorem d_M_know_63 : decode b_M_know 63 = .ok (.lastore, 1) := by decide +kernel
theorem d_M_know_64 : decode b_M_know 64 = .ok (.return_, 1) := by decide +kernel
theorem d_M_know_65 : decode b_M_know 65 = .ok (.aload_n 0, 1) := by decide +kernel
theorem d_M_know_66 : decode b_M_know 66 = .ok (.invokevirtual 65, 3) := by decide +kernel
theorem d_M_know_69 : decode b_M_know 69 = .ok (.iconst 0, 1) := by decide +kernel
theorem d_M_know_70 : decode b_M_know 70 = .ok (.istore_n 1, 1) := by decide +kernel
theorem d_M_know_71 : decode b_M_know 71 = .ok (.iload_n 1, 1) := by decide +kernel
theorem d_M_know_72 : decode b_M_know 72 = .ok (.sipush 672, 3) := by decide +kernel
theorem d_M_know_75 : decode b_M_know 75 = .ok (.if_icmp .ge 16, 3) := by decide +kernel
theorem d_M_know_78 : decode b_M_know 78 = .ok (.aload_n 0, 1) := by decide +kernel
theorem d_M_know_79 : decode b_M_know 79 = .ok (.getfield 30, 3) := by decide +kernel
theorem d_M_know_82 : decode b_M_know 82 = .ok (.iload_n 1, 1) := by decide +kernel
theorem d_M_know_83 : decode b_M_know 83 = .ok (.iconst 0, 1) := by decide +kernel
theorem d_M_know_84 : decode b_M_know 84 = .ok (.iastore, 1) := by decide +kernel
theorem d_M_know_85 : decode b_M_know 85 = .ok (.iinc 1 1, 3) := by decide +kernel
theorem d_M_know_88 : decode b_M_know 88 = .ok (.goto (-17), 3) := by decide +kernel
theorem d_M_know_91 : decode b_M_know 91 = .ok (.iconst 0, 1) := by decide +kernel
theorem d_M_know_92 : decode b_M_know 92 = .ok (.istore_n 1, 1) := by decide +kernel
theorem d_M_know_93 : decode b_M_know 93 = .ok (.iload_n 1, 1) := by decide +kernel
theorem d_M_know_94 : decode b_M_know 94 = .ok (.iconst 1, 1) := by decide +kernel
theorem d_M_know_95 : decode b_M_know 95 = .ok (.aload_n 0, 1) := by decide +kernel
theorem d_M_know_96 : decode b_M_know 96 = .ok (.getfield 43, 3) := by decide +kernel
theorem d_M_know_99 : decode b_M_know 99 = .ok (.ishl, 1) := by decide +kernel
theorem d_M_know_100 : decode b_M_know 100 = .ok (.if_icmp .ge 41, 3) := by decide +kernel
theorem d_M_know_103 : decode b_M_know 103 = .ok (.aload_n 0, 1) := by decide +kernel
theorem d_M_know_104 : decode b_M_know 104 = .ok (.getfield 30, 3) := by decide +kernel
theorem d_M_know_107 : decode b_M_know 107 = .ok (.bipush 32, 2) := by decide +kernel
theorem d_M_know_109 : decode b_M_know 109 = .ok (.aload_n 0, 1) := by decide +kernel
theorem d_M_know_110 : decode b_M_know 110 = .ok (.getfield 43, 3) := by decide +kernel
theorem d_M_know_113 : decode b_M_know 113 = .ok (.iconst 2, 1) := by decide +kernel
theorem d_M_know_114 : decode b_M_know 114 = .ok (.iload_n 1, 1) := by decide +kernel
theorem d_M_know_115 : decode b_M_know 115 = .ok (.invokestatic 71, 3) := by decide +kernel
theorem d_M_know_118 : decode b_M_know 118 = .ok (.imul, 1) := by decide +kernel
theorem d_M_know_119 : decode b_M_know 119 = .ok (.isub, 1) := by decide +kernel
theorem d_M_know_120 : decode b_M_know 120 = .ok (.bipush 10, 2) := by decide +kernel
theorem d_M_know_122 : decode b_M_know 122 = .ok (.iadd, 1) := by decide +kernel
theorem d_M_know_123 : decode b_M_know 123 = .ok (.imul, 1) := by decide +kernel
theorem d_M_know_124 : decode b_M_know 124 = .ok (.aload_n 0, 1) := by decide +kernel
theorem d_M_know_125 : decode b_M_know 125 = .ok (.iload_n 1, 1) := by decide +kernel
theorem d_M_know_126 : decode b_M_know 126 = .ok (.invokevirtual 68, 3) := by decide +kernel
theorem d_M_know_129 : decode b_M_know 129 = .ok (.iadd, 1) := by decide +kernel
theorem d_M_know_130 : decode b_M_know 130 = .ok (.dup2, 1) := by decide +kernel
theorem d_M_know_131 : decode b_M_know 131 = .ok (.iaload, 1) := by decide +kernel
theorem d_M_know_132 : decode b_M_know 132 = .ok (.iconst 1, 1) := by decide +kernel
theorem d_M_know_133 : decode b_M_know 133 = .ok (.iadd, 1) := by decide +kernel
theorem d_M_know_134 : decode b_M_know 134 = .ok (.iastore, 1) := by decide +kernel
theorem d_M_know_135 : decode b_M_know 135 = .ok (.iinc 1 1, 3) := by decide +kernel
theorem d_M_know_138 : decode b_M_know 138 = .ok (.goto (-45), 3) := by decide +kernel
theorem d_M_know_141 : decode b_M_know 141 = .ok (.iconst 0, 1) := by decide +kernel
theorem d_M_know_142 : decode b_M_know 142 = .ok (.istore_n 1, 1) := by decide +kernel
theorem d_M_know_143 : decode b_M_know 143 = .ok (.iload_n 1, 1) := by decide +kernel
theorem d_M_know_144 : decode b_M_know 144 = .ok (.sipush 672, 3) := by decide +kernel
theorem d_M_know_147 : decode b_M_know 147 = .ok (.if_icmp .ge 41, 3) := by decide +kernel
theorem d_M_know_150 : decode b_M_know 150 = .ok (.aload_n 0, 1) := by decide +kernel
theorem d_M_know_151 : decode b_M_know 151 = .ok (.getfield 30, 3) := by decide +kernel
theorem d_M_know_154 : decode b_M_know 154 = .ok (.iload_n 1, 1) := by decide +kernel
theorem d_M_know_155 : decode b_M_know 155 = .ok (.iaload, 1) := by decide +kernel
theorem d_M_know_156 : decode b_M_know 156 = .ok (.ifCond .le 26, 3) := by decide +kernel
theorem d_M_know_159 : decode b_M_know 159 = .ok (.aload_n 0, 1) := by decide +kernel
theorem d_M_know_160 : decode b_M_know 160 = .ok (.aload_n 0, 1) := by decide +kernel
theorem d_M_know_161 : decode b_M_know 161 = .ok (.getfield 30, 3) := by decide +kernel
theorem d_M_know_164 : decode b_M_know 164 = .ok (.iload_n 1, 1) := by decide +kernel
theorem d_M_know_165 : decode b_M_know 165 = .ok (.iaload, 1) := by decide +kernel
theorem d_M_know_166 : decode b_M_know 166 = .ok (.iload_n 1, 1) := by decide +kernel
theorem d_M_know_167 : decode b_M_know 167 = .ok (.bipush 32, 2) := by decide +kernel
theorem d_M_know_169 : decode b_M_know 169 = .ok (.idiv, 1) := by decide +kernel
theorem d_M_know_170 : decode b_M_know 170 = .ok (.bipush 10, 2) := by decide +kernel
theorem d_M_know_172 : decode b_M_know 172 = .ok (.isub, 1) := by decide +kernel
theorem d_M_know_173 : decode b_M_know 173 = .ok (.iload_n 1, 1) := by decide +kernel
theorem d_M_know_174 : decode b_M_know 174 = .ok (.bipush 32, 2) := by decide +kernel
theorem d_M_know_176 : decode b_M_know 176 = .ok (.irem, 1) := by decide +kernel
theorem d_M_know_177 : decode b_M_know 177 = .ok (.iconst 1, 1) := by decide +kernel
theorem d_M_know_178 : decode b_M_know 178 = .ok (.isub, 1) := by decide +kernel
theorem d_M_know_179 : decode b_M_know 179 = .ok (.invokevirtual 74, 3) := by decide +kernel
theorem d_M_know_182 : decode b_M_know 182 = .ok (.iinc 1 1, 3) := by decide +kernel
theorem d_M_know_185 : decode b_M_know 185 = .ok (.goto (-42), 3) := by decide +kernel
theorem d_M_know_188 : decode b_M_know 188 = .ok (.return_, 1) := by decide +kernel
theorem d_M_signs_0 : decode b_M_signs 0 = .ok (.iconst 0, 1) := by decide +kernel
theorem d_M_signs_1 : decode b_M_signs 1 = .ok (.istore_n 1, 1) := by decide +kernel
theorem d_M_signs_2 : decode b_M_signs 2 = .ok (.iconst 0, 1) := by decide +kernel
theorem d_M_signs_3 : decode b_M_signs 3 = .ok (.istore_n 2, 1) := by decide +kernel
theorem d_M_signs_4 : decode b_M_signs 4 = .ok (.iload_n 2, 1) := by decide +kernel
theorem d_M_signs_5 : decode b_M_signs 5 = .ok (.aload_n 0, 1) := by decide +kernel
theorem d_M_signs_6 : decode b_M_signs 6 = .ok (.getfield 43, 3) := by decide +kernel
theorem d_M_signs_9 : decode b_M_signs 9 = .ok (.if_icmp .ge 18, 3) := by decide +kernel
theorem d_M_signs_12 : decode b_M_signs 12 = .ok (.iload_n 1, 1) := by decide +kernel
theorem d_M_signs_13 : decode b_M_signs 13 = .ok (.aload_n 0, 1) := by decide +kernel
theorem d_M_signs_14 : decode b_M_signs 14 = .ok (.getfield 7, 3) := by decide +kernel
theorem d_M_signs_17 : decode b_M_signs 17 = .ok (.iload_n 2, 1) := by decide +kernel
theorem d_M_signs_18 : decode b_M_signs 18 = .ok (.iaload, 1) := by decide +kernel
theorem d_M_signs_19 : decode b_M_signs 19 = .ok (.iadd, 1) := by decide +kernel
theorem d_M_signs_20 : decode b_M_signs 20 = .ok (.istore_n 1, 1) := by decide +kernel
theorem d_M_signs_21 : decode b_M_signs 21 = .ok (.iinc 2 1, 3) := by decide +kernel
theorem d_M_signs_24 : decode b_M_signs 24 = .ok (.goto (-20), 3) := by decide +kernel
theorem d_M_signs_27 : decode b_M_signs 27 = .ok (.iload_n 1, 1) := by decide +kernel
theorem d_M_signs_28 : decode b_M_signs 28 = .ok (.ireturn, 1) := by decide +kernel
theorem d_M_bracket_0 : decode b_M_bracket 0 = .ok (.aload_n 0, 1) := by decide +kernel
theorem d_M_bracket_1 : decode b_M_bracket 1 = .ok (.invokevirtual 78, 3) := by decide +kernel
theorem d_M_bracket_4 : decode b_M_bracket 4 = .ok (.iload_n 1, 1) := by decide +kernel
theorem d_M_bracket_5 : decode b_M_bracket 5 = .ok (.bipush (-128), 2) := by decide +kernel
theorem d_M_bracket_7 : decode b_M_bracket 7 = .ok (.if_icmp .lt 10, 3) := by decide +kernel
theorem d_M_bracket_10 : decode b_M_bracket 10 = .ok (.iload_n 1, 1) := by decide +kernel
theorem d_M_bracket_11 : decode b_M_bracket 11 = .ok (.sipush 128, 3) := by decide +kernel
theorem d_M_bracket_14 : decode b_M_bracket 14 = .ok (.if_icmp .le 7, 3) := by decide +kernel
theorem d_M_bracket_17 : decode b_M_bracket 17 = .ok (.lconst 0, 1) := by decide +kernel
theorem d_M_bracket_18 : decode b_M_bracket 18 = .ok (.goto 13, 3) := by decide +kernel
theorem d_M_bracket_21 : decode b_M_bracket 21 = .ok (.aload_n 0, 1) := by decide +kernel
theorem d_M_bracket_22 : decode b_M_bracket 22 = .ok (.getfield 26, 3) := by decide +kernel
theorem d_M_bracket_25 : decode b_M_bracket 25 = .ok (.sipush 128, 3) := by decide +kernel
theorem d_M_bracket_28 : decode b_M_bracket 28 = .ok (.iload_n 1, 1) := by decide +kernel
theorem d_M_bracket_29 : decode b_M_bracket 29 = .ok (.iadd, 1) := by decide +kernel
theorem d_M_bracket_30 : decode b_M_bracket 30 = .ok (.laload, 1) := by decide +kernel
theorem d_M_bracket_31 : decode b_M_bracket 31 = .ok (.lreturn, 1) := by decide +kernel
theorem d_M_jones_0 : decode b_M_jones 0 = .ok (.aload_n 0, 1) := by decide +kernel
theorem d_M_jones_1 : decode b_M_jones 1 = .ok (.invokevirtual 81, 3) := by decide +kernel
theorem d_M_jones_4 : decode b_M_jones 4 = .ok (.istore_n 2, 1) := by decide +kernel
theorem d_M_jones_5 : decode b_M_jones 5 = .ok (.iload_n 1, 1) := by decide +kernel
theorem d_M_jones_6 : decode b_M_jones 6 = .ok (.sipush (-1000), 3) := by decide +kernel
theorem d_M_jones_9 : decode b_M_jones 9 = .ok (.if_icmp .lt 10, 3) := by decide +kernel
theorem d_M_jones_12 : decode b_M_jones 12 = .ok (.iload_n 1, 1) := by decide +kernel
theorem d_M_jones_13 : decode b_M_jones 13 = .ok (.sipush 1000, 3) := by decide +kernel
theorem d_M_jones_16 : decode b_M_jones 16 = .ok (.if_icmp .le 5, 3) := by decide +kernel
theorem d_M_jones_19 : decode b_M_jones 19 = .ok (.lconst 0, 1) := by decide +kernel
theorem d_M_jones_20 : decode b_M_jones 20 = .ok (.lreturn, 1) := by decide +kernel
theorem d_M_jones_21 : decode b_M_jones 21 = .ok (.iload_n 2, 1) := by decide +kernel
theorem d_M_jones_22 : decode b_M_jones 22 = .ok (.iconst 2, 1) := by decide +kernel
theorem d_M_jones_23 : decode b_M_jones 23 = .ok (.irem, 1) := by decide +kernel
theorem d_M_jones_24 : decode b_M_jones 24 = .ok (.ifCond .ne 15, 3) := by decide +kernel
theorem d_M_jones_27 : decode b_M_jones 27 = .ok (.aload_n 0, 1) := by decide +kernel
theorem d_M_jones_28 : decode b_M_jones 28 = .ok (.iload_n 1, 1) := by decide +kernel
theorem d_M_jones_29 : decode b_M_jones 29 = .ok (.iconst 3, 1) := by decide +kernel
theorem d_M_jones_30 : decode b_M_jones 30 = .ok (.iload_n 2, 1) := by decide +kernel
theorem d_M_jones_31 : decode b_M_jones 31 = .ok (.imul, 1) := by decide +kernel
theorem d_M_jones_32 : decode b_M_jones 32 = .ok (.iadd, 1) := by decide +kernel
theorem d_M_jones_33 : decode b_M_jones 33 = .ok (.invokevirtual 84, 3) := by decide +kernel
theorem d_M_jones_36 : decode b_M_jones 36 = .ok (.goto 13, 3) := by decide +kernel
theorem d_M_jones_39 : decode b_M_jones 39 = .ok (.aload_n 0, 1) := by decide +kernel
theorem d_M_jones_40 : decode b_M_jones 40 = .ok (.iload_n 1, 1) := by decide +kernel
theorem d_M_jones_41 : decode b_M_jones 41 = .ok (.iconst 3, 1) := by decide +kernel
theorem d_M_jones_42 : decode b_M_jones 42 = .ok (.iload_n 2, 1) := by decide +kernel
theorem d_M_jones_43 : decode b_M_jones 43 = .ok (.imul, 1) := by decide +kernel
theorem d_M_jones_44 : decode b_M_jones 44 = .ok (.iadd, 1) := by decide +kernel
theorem d_M_jones_45 : decode b_M_jones 45 = .ok (.invokevirtual 84, 3) := by decide +kernel
theorem d_M_jones_48 : decode b_M_jones 48 = .ok (.lneg, 1) := by decide +kernel
theorem d_M_jones_49 : decode b_M_jones 49 = .ok (.lreturn, 1) := by decide +kernel
theorem d_M_span_0 : decode b_M_span 0 = .ok (.aload_n 0, 1) := by decide +kernel
theorem d_M_span_1 : decode b_M_span 1 = .ok (.invokevirtual 78, 3) := by decide +kernel
theorem d_M_span_4 : decode b_M_span 4 = .ok (.iconst 0, 1) := by decide +kernel
theorem d_M_span_5 : decode b_M_span 5 = .ok (.istore_n 3, 1) := by decide +kernel
theorem d_M_span_6 : decode b_M_span 6 = .ok (.iconst 0, 1) := by decide +kernel
theorem d_M_span_7 : decode b_M_span 7 = .ok (.istore 4, 2) := by decide +kernel
theorem d_M_span_9 : decode b_M_span 9 = .ok (.iconst 1, 1) := by decide +kernel
theorem d_M_span_10 : decode b_M_span 10 = .ok (.istore 5, 2) := by decide +kernel
theorem d_M_span_12 : decode b_M_span 12 = .ok (.bipush (-128), 2) := by decide +kernel
theorem d_M_span_14 : decode b_M_span 14 = .ok (.istore 6, 2) := by decide +kernel
theorem d_M_span_16 : decode b_M_span 16 = .ok (.iload 6, 2) := by decide +kernel
theorem d_M_span_18 : decode b_M_span 18 = .ok (.sipush 128, 3) := by decide +kernel
theorem d_M_span_21 : decode b_M_span 21 = .ok (.if_icmp .gt 44, 3) := by decide +kernel
theorem d_M_span_24 : decode b_M_span 24 = .ok (.aload_n 0, 1) := by decide +kernel
theorem d_M_span_25 : decode b_M_span 25 = .ok (.getfield 26, 3) := by decide +kernel
theorem d_M_span_28 : decode b_M_span 28 = .ok (.sipush 128, 3) := by decide +kernel
theorem d_M_span_31 : decode b_M_span 31 = .ok (.iload 6, 2) := by decide +kernel
theorem d_M_span_33 : decode b_M_span 33 = .ok (.iadd, 1) := by decide +kernel
theorem d_M_span_34 : decode b_M_span 34 = .ok (.laload, 1) := by decide +kernel
theorem d_M_span_35 : decode b_M_span 35 = .ok (.lconst 0, 1) := by decide +kernel
theorem d_M_span_36 : decode b_M_span 36 = .ok (.lcmp, 1) := by decide +kernel
theorem d_M_span_37 : decode b_M_span 37 = .ok (.ifCond .eq 22, 3) := by decide +kernel
theorem d_M_span_40 : decode b_M_span 40 = .ok (.iload 5, 2) := by decide +kernel
theorem d_M_span_42 : decode b_M_span 42 = .ok (.ifCond .eq 8, 3) := by decide +kernel
theorem d_M_span_45 : decode b_M_span 45 = .ok (.iload 6, 2) := by decide +kernel
theorem d_M_span_47 : decode b_M_span 47 = .ok (.goto 4, 3) := by decide +kernel
theorem d_M_span_50 : decode b_M_span 50 = .ok (.iload_n 3, 1) := by decide +kernel
theorem d_M_span_51 : decode b_M_span 51 = .ok (.istore_n 3, 1) := by decide +kernel
theorem d_M_span_52 : decode b_M_span 52 = .ok (.iload 6, 2) := by decide +kernel
theorem d_M_span_54 : decode b_M_span 54 = .ok (.istore 4, 2) := by decide +kernel
theorem d_M_span_56 : decode b_M_span 56 = .ok (.iconst 0, 1) := by decide +kernel
theorem d_M_span_57 : decode b_M_span 57 = .ok (.istore 5, 2) := by decide +kernel
theorem d_M_span_59 : decode b_M_span 59 = .ok (.iinc 6 1, 3) := by decide +kernel
theorem d_M_span_62 : decode b_M_span 62 = .ok (.goto (-46), 3) := by decide +kernel
theorem d_M_span_65 : decode b_M_span 65 = .ok (.iload_n 1, 1) := by decide +kernel
theorem d_M_span_66 : decode b_M_span 66 = .ok (.ifCond .eq 17, 3) := by decide +kernel
theorem d_M_span_69 : decode b_M_span 69 = .ok (.iload 5, 2) := by decide +kernel
theorem d_M_span_71 : decode b_M_span 71 = .ok (.ifCond .ne 12, 3) := by decide +kernel
theorem d_M_span_74 : decode b_M_span 74 = .ok (.iconst 3, 1) := by decide +kernel
theorem d_M_span_75 : decode b_M_span 75 = .ok (.aload_n 0, 1) := by decide +kernel
theorem d_M_span_76 : decode b_M_span 76 = .ok (.invokevirtual 81, 3) := by decide +kernel
theorem d_M_span_79 : decode b_M_span 79 = .ok (.imul, 1) := by decide +kernel
theorem d_M_span_80 : decode b_M_span 80 = .ok (.goto 4, 3) := by decide +kernel
theorem d_M_span_83 : decode b_M_span 83 = .ok (.iconst 0, 1) := by decide +kernel
theorem d_M_span_84 : decode b_M_span 84 = .ok (.istore 6, 2) := by decide +kernel
theorem d_M_span_86 : decode b_M_span 86 = .ok (.iload_n 2, 1) := by decide +kernel
theorem d_M_span_87 : decode b_M_span 87 = .ok (.ifCond .eq 8, 3) := by decide +kernel
theorem d_M_span_90 : decode b_M_span 90 = .ok (.iload 4, 2) := by decide +kernel
theorem d_M_span_92 : decode b_M_span 92 = .ok (.goto 4, 3) := by decide +kernel
theorem d_M_span_95 : decode b_M_span 95 = .ok (.iload_n 3, 1) := by decide +kernel
theorem d_M_span_96 : decode b_M_span 96 = .ok (.iload 6, 2) := by decide +kernel
theorem d_M_span_98 : decode b_M_span 98 = .ok (.isub, 1) := by decide +kernel
theorem d_M_span_99 : decode b_M_span 99 = .ok (.ireturn, 1) := by decide +kernel
theorem d_M_stands_0 : decode b_M_stands 0 = .ok (.iconst 0, 1) := by decide +kernel
theorem d_M_stands_1 : decode b_M_stands 1 = .ok (.istore_n 2, 1) := by decide +kernel
theorem d_M_stands_2 : decode b_M_stands 2 = .ok (.iconst 0, 1) := by decide +kernel
theorem d_M_stands_3 : decode b_M_stands 3 = .ok (.istore_n 3, 1) := by decide +kernel
theorem d_M_stands_4 : decode b_M_stands 4 = .ok (.iload_n 3, 1) := by decide +kernel
theorem d_M_stands_5 : decode b_M_stands 5 = .ok (.iconst 4, 1) := by decide +kernel
theorem d_M_stands_6 : decode b_M_stands 6 = .ok (.aload_n 0, 1) := by decide +kernel
theorem d_M_stands_7 : decode b_M_stands 7 = .ok (.getfield 43, 3) := by decide +kernel
theorem d_M_stands_10 : decode b_M_stands 10 = .ok (.imul, 1) := by decide +kernel
theorem d_M_stands_11 : decode b_M_stands 11 = .ok (.if_icmp .ge 40, 3) := by decide +kernel
theorem d_M_stands_14 : decode b_M_stands 14 = .ok (.iload_n 2, 1) := by decide +kernel
theorem d_M_stands_15 : decode b_M_stands 15 = .ok (.ifCond .ne 24, 3) := by decide +kernel
theorem d_M_stands_18 : decode b_M_stands 18 = .ok (.aload_n 0, 1) := by decide +kernel
theorem d_M_stands_19 : decode b_M_stands 19 = .ok (.getfield 23, 3) := by decide +kernel
theorem d_M_stands_22 : decode b_M_stands 22 = .ok (.iload_n 3, 1) := by decide +kernel
theorem d_M_stands_23 : decode b_M_stands 23 = .ok (.iconst 4, 1) := by decide +kernel
theorem d_M_stands_24 : decode b_M_stands 24 = .ok (.idiv, 1) := by decide +kernel
theorem d_M_stands_25 : decode b_M_stands 25 = .ok (.baload, 1) := by decide +kernel
theorem d_M_stands_26 : decode b_M_stands 26 = .ok (.ifCond .eq 17, 3) := by decide +kernel
theorem d_M_stands_29 : decode b_M_stands 29 = .ok (.aload_n 0, 1) := by decide +kernel
theorem d_M_stands_30 : decode b_M_stands 30 = .ok (.getfield 13, 3) := by decide +kernel
theorem d_M_stands_33 : decode b_M_stands 33 = .ok (.iload_n 3, 1) := by decide +kernel
theorem d_M_stands_34 : decode b_M_stands 34 = .ok (.iaload, 1) := by decide +kernel
theorem d_M_stands_35 : decode b_M_stands 35 = .ok (.iload_n 1, 1) := by decide +kernel
theorem d_M_stands_36 : decode b_M_stands 36 = .ok (.if_icmp .ne 7, 3) := by decide +kernel
theorem d_M_stands_39 : decode b_M_stands 39 = .ok (.iconst 1, 1) := by decide +kernel
theorem d_M_stands_40 : decode b_M_stands 40 = .ok (.goto 4, 3) := by decide +kernel
theorem d_M_stands_43 : decode b_M_stands 43 = .ok (.iconst 0, 1) := by decide +kernel
theorem d_M_stands_44 : decode b_M_stands 44 = .ok (.istore_n 2, 1) := by decide +kernel
theorem d_M_stands_45 : decode b_M_stands 45 = .ok (.iinc 3 1, 3) := by decide +kernel
theorem d_M_stands_48 : decode b_M_stands 48 = .ok (.goto (-44), 3) := by decide +kernel
theorem d_M_stands_51 : decode b_M_stands 51 = .ok (.iload_n 2, 1) := by decide +kernel
theorem d_M_stands_52 : decode b_M_stands 52 = .ok (.ireturn, 1) := by decide +kernel
theorem d_M_touching_0 : decode b_M_touching 0 = .ok (.iconst 0, 1) := by decide +kernel
theorem d_M_touching_1 : decode b_M_touching 1 = .ok (.istore_n 2, 1) := by decide +kernel
theorem d_M_touching_2 : decode b_M_touching 2 = .ok (.iconst 0, 1) := by decide +kernel
theorem d_M_touching_3 : decode b_M_touching 3 = .ok (.istore_n 3, 1) := by decide +kernel
theorem d_M_touching_4 : decode b_M_touching 4 = .ok (.iload_n 3, 1) := by decide +kernel
theorem d_M_touching_5 : decode b_M_touching 5 = .ok (.iconst 4, 1) := by decide +kernel
theorem d_M_touching_6 : decode b_M_touching 6 = .ok (.if_icmp .ge 34, 3) := by decide +kernel
theorem d_M_touching_9 : decode b_M_touching 9 = .ok (.iload_n 2, 1) := by decide +kernel
theorem d_M_touching_10 : decode b_M_touching 10 = .ok (.aload_n 0, 1) := by decide +kernel
theorem d_M_touching_11 : decode b_M_touching 11 = .ok (.aload_n 0, 1) := by decide +kernel
theorem d_M_touching_12 : decode b_M_touching 12 = .ok (.getfield 13, 3) := by decide +kernel
theorem d_M_touching_15 : decode b_M_touching 15 = .ok (.iconst 4, 1) := by decide +kernel
theorem d_M_touching_16 : decode b_M_touching 16 = .ok (.iload_n 1, 1) := by decide +kernel
theorem d_M_touching_17 : decode b_M_touching 17 = .ok (.imul, 1) := by decide +kernel
theorem d_M_touching_18 : decode b_M_touching 18 = .ok (.iload_n 3, 1) := by decide +kernel
theorem d_M_touching_19 : decode b_M_touching 19 = .ok (.iadd, 1) := by decide +kernel
theorem d_M_touching_20 : decode b_M_touching 20 = .ok (.iaload, 1) := by decide +kernel
theorem d_M_touching_21 : decode b_M_touching 21 = .ok (.invokevirtual 88, 3) := by decide +kernel
theorem d_M_touching_24 : decode b_M_touching 24 = .ok (.ifCond .eq 7, 3) := by decide +kernel
theorem d_M_touching_27 : decode b_M_touching 27 = .ok (.iconst 1, 1) := by decide +kernel
theorem d_M_touching_28 : decode b_M_touching 28 = .ok (.goto 4, 3) := by decide +kernel
theorem d_M_touching_31 : decode b_M_touching 31 = .ok (.iconst 0, 1) := by decide +kernel
theorem d_M_touching_32 : decode b_M_touching 32 = .ok (.iadd, 1) := by decide +kernel
theorem d_M_touching_33 : decode b_M_touching 33 = .ok (.istore_n 2, 1) := by decide +kernel
theorem d_M_touching_34 : decode b_M_touching 34 = .ok (.iinc 3 1, 3) := by decide +kernel
theorem d_M_touching_37 : decode b_M_touching 37 = .ok (.goto (-33), 3) := by decide +kernel
theorem d_M_touching_40 : decode b_M_touching 40 = .ok (.iload_n 2, 1) := by decide +kernel
theorem d_M_touching_41 : decode b_M_touching 41 = .ok (.ireturn, 1) := by decide +kernel
theorem d_M_open_0 : decode b_M_open 0 = .ok (.iconst 0, 1) := by decide +kernel
theorem d_M_open_1 : decode b_M_open 1 = .ok (.istore_n 1, 1) := by decide +kernel
theorem d_M_open_2 : decode b_M_open 2 = .ok (.iconst 0, 1) := by decide +kernel
theorem d_M_open_3 : decode b_M_open 3 = .ok (.istore_n 2, 1) := by decide +kernel
theorem d_M_open_4 : decode b_M_open 4 = .ok (.iload_n 2, 1) := by decide +kernel
theorem d_M_open_5 : decode b_M_open 5 = .ok (.iconst 4, 1) := by decide +kernel
theorem d_M_open_6 : decode b_M_open 6 = .ok (.aload_n 0, 1) := by decide +kernel
theorem d_M_open_7 : decode b_M_open 7 = .ok (.getfield 43, 3) := by decide +kernel
theorem d_M_open_10 : decode b_M_open 10 = .ok (.imul, 1) := by decide +kernel
theorem d_M_open_11 : decode b_M_open 11 = .ok (.if_icmp .ge 44, 3) := by decide +kernel
theorem d_M_open_14 : decode b_M_open 14 = .ok (.iload_n 1, 1) := by decide +kernel
theorem d_M_open_15 : decode b_M_open 15 = .ok (.aload_n 0, 1) := by decide +kernel
theorem d_M_open_16 : decode b_M_open 16 = .ok (.getfield 23, 3) := by decide +kernel
theorem d_M_open_19 : decode b_M_open 19 = .ok (.iload_n 2, 1) := by decide +kernel
theorem d_M_open_20 : decode b_M_open 20 = .ok (.iconst 4, 1) := by decide +kernel
theorem d_M_open_21 : decode b_M_open 21 = .ok (.idiv, 1) := by decide +kernel
theorem d_M_open_22 : decode b_M_open 22 = .ok (.baload, 1) := by decide +kernel
theorem d_M_open_23 : decode b_M_open 23 = .ok (.ifCond .eq 23, 3) := by decide +kernel
theorem d_M_open_26 : decode b_M_open 26 = .ok (.aload_n 0, 1) := by decide +kernel
theorem d_M_open_27 : decode b_M_open 27 = .ok (.getfield 23, 3) := by decide +kernel
theorem d_M_open_30 : decode b_M_open 30 = .ok (.aload_n 0, 1) := by decide +kernel
theorem d_M_open_31 : decode b_M_open 31 = .ok (.getfield 16, 3) := by decide +kernel
theorem d_M_open_34 : decode b_M_open 34 = .ok (.iload_n 2, 1) := by decide +kernel
theorem d_M_open_35 : decode b_M_open 35 = .ok (.iaload, 1) := by decide +kernel
theorem d_M_open_36 : decode b_M_open 36 = .ok (.iconst 4, 1) := by decide +kernel
theorem d_M_open_37 : decode b_M_open 37 = .ok (.idiv, 1) := by decide +kernel
theorem d_M_open_38 : decode b_M_open 38 = .ok (.baload, 1) := by decide +kernel
theorem d_M_open_39 : decode b_M_open 39 = .ok (.ifCond .ne 7, 3) := by decide +kernel
theorem d_M_open_42 : decode b_M_open 42 = .ok (.iconst 1, 1) := by decide +kernel
theorem d_M_open_43 : decode b_M_open 43 = .ok (.goto 4, 3) := by decide +kernel
theorem d_M_open_46 : decode b_M_open 46 = .ok (.iconst 0, 1) := by decide +kernel
theorem d_M_open_47 : decode b_M_open 47 = .ok (.iadd, 1) := by decide +kernel
theorem d_M_open_48 : decode b_M_open 48 = .ok (.istore_n 1, 1) := by decide +kernel
theorem d_M_open_49 : decode b_M_open 49 = .ok (.iinc 2 1, 3) := by decide +kernel
theorem d_M_open_52 : decode b_M_open 52 = .ok (.goto (-48), 3) := by decide +kernel
theorem d_M_open_55 : decode b_M_open 55 = .ok (.iload_n 1, 1) := by decide +kernel
theorem d_M_open_56 : decode b_M_open 56 = .ok (.ireturn, 1) := by decide +kernel
theorem d_M_sweep_0 : decode b_M_sweep 0 = .ok (.iload_n 1, 1) := by decide +kernel
theorem d_M_sweep_1 : decode b_M_sweep 1 = .ok (.ifCond .lt 18, 3) := by decide +kernel
theorem d_M_sweep_4 : decode b_M_sweep 4 = .ok (.iload_n 1, 1) := by decide +kernel
theorem d_M_sweep_5 : decode b_M_sweep 5 = .ok (.aload_n 0, 1) := by decide +kernel
theorem d_M_sweep_6 : decode b_M_sweep 6 = .ok (.getfield 43, 3) := by decide +kernel
theorem d_M_sweep_9 : decode b_M_sweep 9 = .ok (.if_icmp .ge 10, 3) := by decide +kernel
theorem d_M_sweep_12 : decode b_M_sweep 12 = .ok (.aload_n 0, 1) := by decide +kernel
theorem d_M_sweep_13 : decode b_M_sweep 13 = .ok (.invokevirtual 61, 3) := by decide +kernel
theorem d_M_sweep_16 : decode b_M_sweep 16 = .ok (.ifCond .le 5, 3) := by decide +kernel
theorem d_M_sweep_19 : decode b_M_sweep 19 = .ok (.iconst (-1), 1) := by decide +kernel
theorem d_M_sweep_20 : decode b_M_sweep 20 = .ok (.ireturn, 1) := by decide +kernel
theorem d_M_sweep_21 : decode b_M_sweep 21 = .ok (.aload_n 0, 1) := by decide +kernel
theorem d_M_sweep_22 : decode b_M_sweep 22 = .ok (.invokevirtual 65, 3) := by decide +kernel
theorem d_M_sweep_25 : decode b_M_sweep 25 = .ok (.iconst 0, 1) := by decide +kernel
theorem d_M_sweep_26 : decode b_M_sweep 26 = .ok (.istore_n 2, 1) := by decide +kernel
theorem d_M_sweep_27 : decode b_M_sweep 27 = .ok (.iload_n 2, 1) := by decide +kernel
theorem d_M_sweep_28 : decode b_M_sweep 28 = .ok (.aload_n 0, 1) := by decide +kernel
theorem d_M_sweep_29 : decode b_M_sweep 29 = .ok (.getfield 43, 3) := by decide +kernel
theorem d_M_sweep_32 : decode b_M_sweep 32 = .ok (.if_icmp .ge 16, 3) := by decide +kernel
theorem d_M_sweep_35 : decode b_M_sweep 35 = .ok (.aload_n 0, 1) := by decide +kernel
theorem d_M_sweep_36 : decode b_M_sweep 36 = .ok (.getfield 23, 3) := by decide +kernel
theorem d_M_sweep_39 : decode b_M_sweep 39 = .ok (.iload_n 2, 1) := by decide +kernel
theorem d_M_sweep_40 : decode b_M_sweep 40 = .ok (.iconst 0, 1) := by decide +kernel
theorem d_M_sweep_41 : decode b_M_sweep 41 = .ok (.bastore, 1) := by decide +kernel
theorem d_M_sweep_42 : decode b_M_sweep 42 = .ok (.iinc 2 1, 3) := by decide +kernel
theorem d_M_sweep_45 : decode b_M_sweep 45 = .ok (.goto (-18), 3) := by decide +kernel
theorem d_M_sweep_48 : decode b_M_sweep 48 = .ok (.iconst 0, 1) := by decide +kernel
theorem d_M_sweep_49 : decode b_M_sweep 49 = .ok (.istore_n 2, 1) := by decide +kernel
theorem d_M_sweep_50 : decode b_M_sweep 50 = .ok (.iload_n 1, 1) := by decide +kernel
theorem d_M_sweep_51 : decode b_M_sweep 51 = .ok (.istore_n 3, 1) := by decide +kernel
theorem d_M_sweep_52 : decode b_M_sweep 52 = .ok (.iconst 0, 1) := by decide +kernel
theorem d_M_sweep_53 : decode b_M_sweep 53 = .ok (.istore 4, 2) := by decide +kernel
theorem d_M_sweep_55 : decode b_M_sweep 55 = .ok (.iload 4, 2) := by decide +kernel
theorem d_M_sweep_57 : decode b_M_sweep 57 = .ok (.aload_n 0, 1) := by decide +kernel
theorem d_M_sweep_58 : decode b_M_sweep 58 = .ok (.getfield 43, 3) := by decide +kernel
theorem d_M_sweep_61 : decode b_M_sweep 61 = .ok (.if_icmp .ge 90, 3) := by decide +kernel
theorem d_M_sweep_64 : decode b_M_sweep 64 = .ok (.aload_n 0, 1) := by decide +kernel
theorem d_M_sweep_65 : decode b_M_sweep 65 = .ok (.getfield 23, 3) := by decide +kernel
theorem d_M_sweep_68 : decode b_M_sweep 68 = .ok (.iload_n 3, 1) := by decide +kernel
theorem d_M_sweep_69 : decode b_M_sweep 69 = .ok (.iconst 1, 1) := by decide +kernel
theorem d_M_sweep_70 : decode b_M_sweep 70 = .ok (.bastore, 1) := by decide +kernel
theorem d_M_sweep_71 : decode b_M_sweep 71 = .ok (.aload_n 0, 1) := by decide +kernel
theorem d_M_sweep_72 : decode b_M_sweep 72 = .ok (.invokevirtual 92, 3) := by decide +kernel
theorem d_M_sweep_75 : decode b_M_sweep 75 = .ok (.iload_n 2, 1) := by decide +kernel
theorem d_M_sweep_76 : decode b_M_sweep 76 = .ok (.if_icmp .le 10, 3) := by decide +kernel
theorem d_M_sweep_79 : decode b_M_sweep 79 = .ok (.aload_n 0, 1) := by decide +kernel
theorem d_M_sweep_80 : decode b_M_sweep 80 = .ok (.invokevirtual 92, 3) := by decide +kernel
theorem d_M_sweep_83 : decode b_M_sweep 83 = .ok (.goto 4, 3) := by decide +kernel
theorem d_M_sweep_86 : decode b_M_sweep 86 = .ok (.iload_n 2, 1) := by decide +kernel
theorem d_M_sweep_87 : decode b_M_sweep 87 = .ok (.istore_n 2, 1) := by decide +kernel
theorem d_M_sweep_88 : decode b_M_sweep 88 = .ok (.iconst (-1), 1) := by decide +kernel
theorem d_M_sweep_89 : decode b_M_sweep 89 = .ok (.istore 5, 2) := by decide +kernel
theorem d_M_sweep_91 : decode b_M_sweep 91 = .ok (.iconst 0, 1) := by decide +kernel
theorem d_M_sweep_92 : decode b_M_sweep 92 = .ok (.istore 6, 2) := by decide +kernel
theorem d_M_sweep_94 : decode b_M_sweep 94 = .ok (.iload 6, 2) := by decide +kernel
theorem d_M_sweep_96 : decode b_M_sweep 96 = .ok (.aload_n 0, 1) := by decide +kernel
theorem d_M_sweep_97 : decode b_M_sweep 97 = .ok (.getfield 43, 3) := by decide +kernel
theorem d_M_sweep_100 : decode b_M_sweep 100 = .ok (.if_icmp .ge 45, 3) := by decide +kernel
theorem d_M_sweep_103 : decode b_M_sweep 103 = .ok (.aload_n 0, 1) := by decide +kernel
theorem d_M_sweep_104 : decode b_M_sweep 104 = .ok (.getfield 23, 3) := by decide +kernel
theorem d_M_sweep_107 : decode b_M_sweep 107 = .ok (.iload 6, 2) := by decide +kernel
theorem d_M_sweep_109 : decode b_M_sweep 109 = .ok (.baload, 1) := by decide +kernel
theorem d_M_sweep_110 : decode b_M_sweep 110 = .ok (.ifCond .eq 7, 3) := by decide +kernel
theorem d_M_sweep_113 : decode b_M_sweep 113 = .ok (.iconst (-1), 1) := by decide +kernel
theorem d_M_sweep_114 : decode b_M_sweep 114 = .ok (.goto 9, 3) := by decide +kernel
theorem d_M_sweep_117 : decode b_M_sweep 117 = .ok (.aload_n 0, 1) := by decide +kernel
theorem d_M_sweep_118 : decode b_M_sweep 118 = .ok (.iload 6, 2) := by decide +kernel
theorem d_M_sweep_120 : decode b_M_sweep 120 = .ok (.invokevirtual 95, 3) := by decide +kernel
theorem d_M_sweep_123 : decode b_M_sweep 123 = .ok (.istore 7, 2) := by decide +kernel
theorem d_M_sweep_125 : decode b_M_sweep 125 = .ok (.iload 7, 2) := by decide +kernel
theorem d_M_sweep_127 : decode b_M_sweep 127 = .ok (.iload 5, 2) := by decide +kernel
theorem d_M_sweep_129 : decode b_M_sweep 129 = .ok (.if_icmp .le 10, 3) := by decide +kernel
theorem d_M_sweep_132 : decode b_M_sweep 132 = .ok (.iload 7, 2) := by decide +kernel
theorem d_M_sweep_134 : decode b_M_sweep 134 = .ok (.istore 5, 2) := by decide +kernel
theorem d_M_sweep_136 : decode b_M_sweep 136 = .ok (.iload 6, 2) := by decide +kernel
theorem d_M_sweep_138 : decode b_M_sweep 138 = .ok (.istore_n 3, 1) := by decide +kernel
theorem d_M_sweep_139 : decode b_M_sweep 139 = .ok (.iinc 6 1, 3) := by decide +kernel
theorem d_M_sweep_142 : decode b_M_sweep 142 = .ok (.goto (-48), 3) := by decide +kernel
theorem d_M_sweep_145 : decode b_M_sweep 145 = .ok (.iinc 4 1, 3) := by decide +kernel
theorem d_M_sweep_148 : decode b_M_sweep 148 = .ok (.goto (-93), 3) := by decide +kernel
theorem d_M_sweep_151 : decode b_M_sweep 151 = .ok (.iload_n 2, 1) := by decide +kernel
theorem d_M_sweep_152 : decode b_M_sweep 152 = .ok (.ireturn, 1) := by decide +kernel
theorem d_M_look_0 : decode b_M_look 0 = .ok (.iload_n 1, 1) := by decide +kernel
theorem d_M_look_1 : decode b_M_look 1 = .ok (.iconst (-1), 1) := by decide +kernel
theorem d_M_look_2 : decode b_M_look 2 = .ok (.if_icmp .ne 42, 3) := by decide +kernel
theorem d_M_look_5 : decode b_M_look 5 = .ok (.iload_n 2, 1) := by decide +kernel
theorem d_M_look_6 : decode b_M_look 6 = .ok (.ifCond .ne 10, 3) := by decide +kernel
theorem d_M_look_9 : decode b_M_look 9 = .ok (.aload_n 0, 1) := by decide +kernel
theorem d_M_look_10 : decode b_M_look 10 = .ok (.getfield 43, 3) := by decide +kernel
theorem d_M_look_13 : decode b_M_look 13 = .ok (.goto 30, 3) := by decide +kernel
theorem d_M_look_16 : decode b_M_look 16 = .ok (.iload_n 2, 1) := by decide +kernel
end
section
theorem d_M_look_17 : decode b_M_look 17 = .ok (.iconst 1, 1) := by decide +kernel
theorem d_M_look_18 : decode b_M_look 18 = .ok (.if_icmp .ne 10, 3) := by decide +kernel
theorem d_M_look_21 : decode b_M_look 21 = .ok (.aload_n 0, 1) := by decide +kernel
theorem d_M_look_22 : decode b_M_look 22 = .ok (.getfield 50, 3) := by decide +kernel
theorem d_M_look_25 : decode b_M_look 25 = .ok (.goto 18, 3) := by decide +kernel
theorem d_M_look_28 : decode b_M_look 28 = .ok (.iload_n 2, 1) := by decide +kernel
theorem d_M_look_29 : decode b_M_look 29 = .ok (.iconst 2, 1) := by decide +kernel
theorem d_M_look_30 : decode b_M_look 30 = .ok (.if_icmp .ne 10, 3) := by decide +kernel
theorem d_M_look_33 : decode b_M_look 33 = .ok (.aload_n 0, 1) := by decide +kernel
theorem d_M_look_34 : decode b_M_look 34 = .ok (.invokevirtual 81, 3) := by decide +kernel
theorem d_M_look_37 : decode b_M_look 37 = .ok (.goto 6, 3) := by decide +kernel
theorem d_M_look_40 : decode b_M_look 40 = .ok (.sipush (-1000), 3) := by decide +kernel
theorem d_M_look_43 : decode b_M_look 43 = .ok (.ireturn, 1) := by decide +kernel
theorem d_M_look_44 : decode b_M_look 44 = .ok (.iload_n 1, 1) := by decide +kernel
theorem d_M_look_45 : decode b_M_look 45 = .ok (.ifCond .lt 20, 3) := by decide +kernel
theorem d_M_look_48 : decode b_M_look 48 = .ok (.iload_n 1, 1) := by decide +kernel
theorem d_M_look_49 : decode b_M_look 49 = .ok (.aload_n 0, 1) := by decide +kernel
theorem d_M_look_50 : decode b_M_look 50 = .ok (.getfield 43, 3) := by decide +kernel
theorem d_M_look_53 : decode b_M_look 53 = .ok (.if_icmp .ge 12, 3) := by decide +kernel
theorem d_M_look_56 : decode b_M_look 56 = .ok (.iload_n 2, 1) := by decide +kernel
theorem d_M_look_57 : decode b_M_look 57 = .ok (.ifCond .lt 8, 3) := by decide +kernel
theorem d_M_look_60 : decode b_M_look 60 = .ok (.iload_n 2, 1) := by decide +kernel
theorem d_M_look_61 : decode b_M_look 61 = .ok (.iconst 4, 1) := by decide +kernel
theorem d_M_look_62 : decode b_M_look 62 = .ok (.if_icmp .le 7, 3) := by decide +kernel
theorem d_M_look_65 : decode b_M_look 65 = .ok (.sipush (-1000), 3) := by decide +kernel
theorem d_M_look_68 : decode b_M_look 68 = .ok (.ireturn, 1) := by decide +kernel
theorem d_M_look_69 : decode b_M_look 69 = .ok (.iload_n 2, 1) := by decide +kernel
theorem d_M_look_70 : decode b_M_look 70 = .ok (.iconst 4, 1) := by decide +kernel
theorem d_M_look_71 : decode b_M_look 71 = .ok (.if_icmp .ne 12, 3) := by decide +kernel
theorem d_M_look_74 : decode b_M_look 74 = .ok (.aload_n 0, 1) := by decide +kernel
theorem d_M_look_75 : decode b_M_look 75 = .ok (.getfield 7, 3) := by decide +kernel
theorem d_M_look_78 : decode b_M_look 78 = .ok (.iload_n 1, 1) := by decide +kernel
theorem d_M_look_79 : decode b_M_look 79 = .ok (.iaload, 1) := by decide +kernel
theorem d_M_look_80 : decode b_M_look 80 = .ok (.goto 13, 3) := by decide +kernel
theorem d_M_look_83 : decode b_M_look 83 = .ok (.aload_n 0, 1) := by decide +kernel
theorem d_M_look_84 : decode b_M_look 84 = .ok (.getfield 13, 3) := by decide +kernel
theorem d_M_look_87 : decode b_M_look 87 = .ok (.iconst 4, 1) := by decide +kernel
theorem d_M_look_88 : decode b_M_look 88 = .ok (.iload_n 1, 1) := by decide +kernel
theorem d_M_look_89 : decode b_M_look 89 = .ok (.imul, 1) := by decide +kernel
theorem d_M_look_90 : decode b_M_look 90 = .ok (.iload_n 2, 1) := by decide +kernel
theorem d_M_look_91 : decode b_M_look 91 = .ok (.iadd, 1) := by decide +kernel
theorem d_M_look_92 : decode b_M_look 92 = .ok (.iaload, 1) := by decide +kernel
theorem d_M_look_93 : decode b_M_look 93 = .ok (.ireturn, 1) := by decide +kernel
theorem d_M_become_0 : decode b_M_become 0 = .ok (.iconst 0, 1) := by decide +kernel
theorem d_M_become_1 : decode b_M_become 1 = .ok (.istore_n 3, 1) := by decide +kernel
theorem d_M_become_2 : decode b_M_become 2 = .ok (.iload_n 3, 1) := by decide +kernel
theorem d_M_become_3 : decode b_M_become 3 = .ok (.iconst 4, 1) := by decide +kernel
theorem d_M_become_4 : decode b_M_become 4 = .ok (.aload_n 0, 1) := by decide +kernel
theorem d_M_become_5 : decode b_M_become 5 = .ok (.getfield 43, 3) := by decide +kernel
theorem d_M_become_8 : decode b_M_become 8 = .ok (.imul, 1) := by decide +kernel
theorem d_M_become_9 : decode b_M_become 9 = .ok (.if_icmp .ge 35, 3) := by decide +kernel
theorem d_M_become_12 : decode b_M_become 12 = .ok (.aload_n 0, 1) := by decide +kernel
theorem d_M_become_13 : decode b_M_become 13 = .ok (.getfield 13, 3) := by decide +kernel
theorem d_M_become_16 : decode b_M_become 16 = .ok (.iload_n 3, 1) := by decide +kernel
theorem d_M_become_17 : decode b_M_become 17 = .ok (.aload_n 0, 1) := by decide +kernel
theorem d_M_become_18 : decode b_M_become 18 = .ok (.getfield 13, 3) := by decide +kernel
theorem d_M_become_21 : decode b_M_become 21 = .ok (.iload_n 3, 1) := by decide +kernel
theorem d_M_become_22 : decode b_M_become 22 = .ok (.iaload, 1) := by decide +kernel
theorem d_M_become_23 : decode b_M_become 23 = .ok (.iload_n 1, 1) := by decide +kernel
theorem d_M_become_24 : decode b_M_become 24 = .ok (.if_icmp .ne 7, 3) := by decide +kernel
theorem d_M_become_27 : decode b_M_become 27 = .ok (.iload_n 2, 1) := by decide +kernel
theorem d_M_become_28 : decode b_M_become 28 = .ok (.goto 9, 3) := by decide +kernel
theorem d_M_become_31 : decode b_M_become 31 = .ok (.aload_n 0, 1) := by decide +kernel
theorem d_M_become_32 : decode b_M_become 32 = .ok (.getfield 13, 3) := by decide +kernel
theorem d_M_become_35 : decode b_M_become 35 = .ok (.iload_n 3, 1) := by decide +kernel
theorem d_M_become_36 : decode b_M_become 36 = .ok (.iaload, 1) := by decide +kernel
theorem d_M_become_37 : decode b_M_become 37 = .ok (.iastore, 1) := by decide +kernel
theorem d_M_become_38 : decode b_M_become 38 = .ok (.iinc 3 1, 3) := by decide +kernel
theorem d_M_become_41 : decode b_M_become 41 = .ok (.goto (-39), 3) := by decide +kernel
theorem d_M_become_44 : decode b_M_become 44 = .ok (.iconst 0, 1) := by decide +kernel
theorem d_M_become_45 : decode b_M_become 45 = .ok (.istore_n 3, 1) := by decide +kernel
theorem d_M_become_46 : decode b_M_become 46 = .ok (.iload_n 3, 1) := by decide +kernel
theorem d_M_become_47 : decode b_M_become 47 = .ok (.iconst 4, 1) := by decide +kernel
theorem d_M_become_48 : decode b_M_become 48 = .ok (.if_icmp .ge 35, 3) := by decide +kernel
theorem d_M_become_51 : decode b_M_become 51 = .ok (.aload_n 0, 1) := by decide +kernel
theorem d_M_become_52 : decode b_M_become 52 = .ok (.getfield 36, 3) := by decide +kernel
theorem d_M_become_55 : decode b_M_become 55 = .ok (.iload_n 3, 1) := by decide +kernel
theorem d_M_become_56 : decode b_M_become 56 = .ok (.aload_n 0, 1) := by decide +kernel
theorem d_M_become_57 : decode b_M_become 57 = .ok (.getfield 36, 3) := by decide +kernel
theorem d_M_become_60 : decode b_M_become 60 = .ok (.iload_n 3, 1) := by decide +kernel
theorem d_M_become_61 : decode b_M_become 61 = .ok (.iaload, 1) := by decide +kernel
theorem d_M_become_62 : decode b_M_become 62 = .ok (.iload_n 1, 1) := by decide +kernel
theorem d_M_become_63 : decode b_M_become 63 = .ok (.if_icmp .ne 7, 3) := by decide +kernel
theorem d_M_become_66 : decode b_M_become 66 = .ok (.iload_n 2, 1) := by decide +kernel
theorem d_M_become_67 : decode b_M_become 67 = .ok (.goto 9, 3) := by decide +kernel
theorem d_M_become_70 : decode b_M_become 70 = .ok (.aload_n 0, 1) := by decide +kernel
theorem d_M_become_71 : decode b_M_become 71 = .ok (.getfield 36, 3) := by decide +kernel
theorem d_M_become_74 : decode b_M_become 74 = .ok (.iload_n 3, 1) := by decide +kernel
theorem d_M_become_75 : decode b_M_become 75 = .ok (.iaload, 1) := by decide +kernel
theorem d_M_become_76 : decode b_M_become 76 = .ok (.iastore, 1) := by decide +kernel
theorem d_M_become_77 : decode b_M_become 77 = .ok (.iinc 3 1, 3) := by decide +kernel
theorem d_M_become_80 : decode b_M_become 80 = .ok (.goto (-34), 3) := by decide +kernel
theorem d_M_become_83 : decode b_M_become 83 = .ok (.return_, 1) := by decide +kernel
theorem d_M_join_0 : decode b_M_join 0 = .ok (.iload_n 1, 1) := by decide +kernel
theorem d_M_join_1 : decode b_M_join 1 = .ok (.iload_n 2, 1) := by decide +kernel
theorem d_M_join_2 : decode b_M_join 2 = .ok (.if_icmp .ne 5, 3) := by decide +kernel
theorem d_M_join_5 : decode b_M_join 5 = .ok (.iconst 1, 1) := by decide +kernel
theorem d_M_join_6 : decode b_M_join 6 = .ok (.ireturn, 1) := by decide +kernel
theorem d_M_join_7 : decode b_M_join 7 = .ok (.aload_n 0, 1) := by decide +kernel
theorem d_M_join_8 : decode b_M_join 8 = .ok (.iload_n 1, 1) := by decide +kernel
theorem d_M_join_9 : decode b_M_join 9 = .ok (.iload_n 2, 1) := by decide +kernel
theorem d_M_join_10 : decode b_M_join 10 = .ok (.if_icmp .ge 7, 3) := by decide +kernel
theorem d_M_join_13 : decode b_M_join 13 = .ok (.iload_n 2, 1) := by decide +kernel
theorem d_M_join_14 : decode b_M_join 14 = .ok (.goto 4, 3) := by decide +kernel
theorem d_M_join_17 : decode b_M_join 17 = .ok (.iload_n 1, 1) := by decide +kernel
theorem d_M_join_18 : decode b_M_join 18 = .ok (.iload_n 1, 1) := by decide +kernel
theorem d_M_join_19 : decode b_M_join 19 = .ok (.iload_n 2, 1) := by decide +kernel
theorem d_M_join_20 : decode b_M_join 20 = .ok (.if_icmp .ge 7, 3) := by decide +kernel
theorem d_M_join_23 : decode b_M_join 23 = .ok (.iload_n 1, 1) := by decide +kernel
theorem d_M_join_24 : decode b_M_join 24 = .ok (.goto 4, 3) := by decide +kernel
theorem d_M_join_27 : decode b_M_join 27 = .ok (.iload_n 2, 1) := by decide +kernel
theorem d_M_join_28 : decode b_M_join 28 = .ok (.invokevirtual 98, 3) := by decide +kernel
theorem d_M_join_31 : decode b_M_join 31 = .ok (.iconst 0, 1) := by decide +kernel
theorem d_M_join_32 : decode b_M_join 32 = .ok (.ireturn, 1) := by decide +kernel
theorem d_M_closing_0 : decode b_M_closing 0 = .ok (.iconst 4, 1) := by decide +kernel
theorem d_M_closing_1 : decode b_M_closing 1 = .ok (.iload_n 1, 1) := by decide +kernel
theorem d_M_closing_2 : decode b_M_closing 2 = .ok (.imul, 1) := by decide +kernel
theorem d_M_closing_3 : decode b_M_closing 3 = .ok (.iload_n 2, 1) := by decide +kernel
theorem d_M_closing_4 : decode b_M_closing 4 = .ok (.ifCond .eq 7, 3) := by decide +kernel
theorem d_M_closing_7 : decode b_M_closing 7 = .ok (.iconst 0, 1) := by decide +kernel
theorem d_M_closing_8 : decode b_M_closing 8 = .ok (.goto 4, 3) := by decide +kernel
theorem d_M_closing_11 : decode b_M_closing 11 = .ok (.iconst 1, 1) := by decide +kernel
theorem d_M_closing_12 : decode b_M_closing 12 = .ok (.iadd, 1) := by decide +kernel
theorem d_M_closing_13 : decode b_M_closing 13 = .ok (.istore_n 3, 1) := by decide +kernel
theorem d_M_closing_14 : decode b_M_closing 14 = .ok (.iconst 4, 1) := by decide +kernel
theorem d_M_closing_15 : decode b_M_closing 15 = .ok (.iload_n 1, 1) := by decide +kernel
theorem d_M_closing_16 : decode b_M_closing 16 = .ok (.imul, 1) := by decide +kernel
theorem d_M_closing_17 : decode b_M_closing 17 = .ok (.iload_n 2, 1) := by decide +kernel
theorem d_M_closing_18 : decode b_M_closing 18 = .ok (.ifCond .eq 7, 3) := by decide +kernel
theorem d_M_closing_21 : decode b_M_closing 21 = .ok (.iconst 1, 1) := by decide +kernel
theorem d_M_closing_22 : decode b_M_closing 22 = .ok (.goto 4, 3) := by decide +kernel
theorem d_M_closing_25 : decode b_M_closing 25 = .ok (.iconst 2, 1) := by decide +kernel
theorem d_M_closing_26 : decode b_M_closing 26 = .ok (.iadd, 1) := by decide +kernel
theorem d_M_closing_27 : decode b_M_closing 27 = .ok (.istore 4, 2) := by decide +kernel
theorem d_M_closing_29 : decode b_M_closing 29 = .ok (.iconst 4, 1) := by decide +kernel
theorem d_M_closing_30 : decode b_M_closing 30 = .ok (.iload_n 1, 1) := by decide +kernel
theorem d_M_closing_31 : decode b_M_closing 31 = .ok (.imul, 1) := by decide +kernel
theorem d_M_closing_32 : decode b_M_closing 32 = .ok (.iload_n 2, 1) := by decide +kernel
theorem d_M_closing_33 : decode b_M_closing 33 = .ok (.ifCond .eq 7, 3) := by decide +kernel
theorem d_M_closing_36 : decode b_M_closing 36 = .ok (.iconst 2, 1) := by decide +kernel
theorem d_M_closing_37 : decode b_M_closing 37 = .ok (.goto 4, 3) := by decide +kernel
theorem d_M_closing_40 : decode b_M_closing 40 = .ok (.iconst 3, 1) := by decide +kernel
theorem d_M_closing_41 : decode b_M_closing 41 = .ok (.iadd, 1) := by decide +kernel
theorem d_M_closing_42 : decode b_M_closing 42 = .ok (.istore 5, 2) := by decide +kernel
theorem d_M_closing_44 : decode b_M_closing 44 = .ok (.iconst 4, 1) := by decide +kernel
theorem d_M_closing_45 : decode b_M_closing 45 = .ok (.iload_n 1, 1) := by decide +kernel
theorem d_M_closing_46 : decode b_M_closing 46 = .ok (.imul, 1) := by decide +kernel
theorem d_M_closing_47 : decode b_M_closing 47 = .ok (.iload_n 2, 1) := by decide +kernel
theorem d_M_closing_48 : decode b_M_closing 48 = .ok (.ifCond .eq 7, 3) := by decide +kernel
theorem d_M_closing_51 : decode b_M_closing 51 = .ok (.iconst 3, 1) := by decide +kernel
theorem d_M_closing_52 : decode b_M_closing 52 = .ok (.goto 4, 3) := by decide +kernel
theorem d_M_closing_55 : decode b_M_closing 55 = .ok (.iconst 0, 1) := by decide +kernel
theorem d_M_closing_56 : decode b_M_closing 56 = .ok (.iadd, 1) := by decide +kernel
theorem d_M_closing_57 : decode b_M_closing 57 = .ok (.istore 6, 2) := by decide +kernel
theorem d_M_closing_59 : decode b_M_closing 59 = .ok (.aload_n 0, 1) := by decide +kernel
theorem d_M_closing_60 : decode b_M_closing 60 = .ok (.getfield 13, 3) := by decide +kernel
theorem d_M_closing_63 : decode b_M_closing 63 = .ok (.iload_n 3, 1) := by decide +kernel
theorem d_M_closing_64 : decode b_M_closing 64 = .ok (.iaload, 1) := by decide +kernel
theorem d_M_closing_65 : decode b_M_closing 65 = .ok (.aload_n 0, 1) := by decide +kernel
theorem d_M_closing_66 : decode b_M_closing 66 = .ok (.getfield 13, 3) := by decide +kernel
theorem d_M_closing_69 : decode b_M_closing 69 = .ok (.iload 4, 2) := by decide +kernel
theorem d_M_closing_71 : decode b_M_closing 71 = .ok (.iaload, 1) := by decide +kernel
theorem d_M_closing_72 : decode b_M_closing 72 = .ok (.if_icmp .ne 7, 3) := by decide +kernel
theorem d_M_closing_75 : decode b_M_closing 75 = .ok (.iconst 1, 1) := by decide +kernel
theorem d_M_closing_76 : decode b_M_closing 76 = .ok (.goto 4, 3) := by decide +kernel
theorem d_M_closing_79 : decode b_M_closing 79 = .ok (.iconst 0, 1) := by decide +kernel
theorem d_M_closing_80 : decode b_M_closing 80 = .ok (.aload_n 0, 1) := by decide +kernel
theorem d_M_closing_81 : decode b_M_closing 81 = .ok (.getfield 13, 3) := by decide +kernel
theorem d_M_closing_84 : decode b_M_closing 84 = .ok (.iload 5, 2) := by decide +kernel
theorem d_M_closing_86 : decode b_M_closing 86 = .ok (.iaload, 1) := by decide +kernel
theorem d_M_closing_87 : decode b_M_closing 87 = .ok (.aload_n 0, 1) := by decide +kernel
theorem d_M_closing_88 : decode b_M_closing 88 = .ok (.getfield 13, 3) := by decide +kernel
theorem d_M_closing_91 : decode b_M_closing 91 = .ok (.iload 6, 2) := by decide +kernel
theorem d_M_closing_93 : decode b_M_closing 93 = .ok (.iaload, 1) := by decide +kernel
theorem d_M_closing_94 : decode b_M_closing 94 = .ok (.if_icmp .ne 7, 3) := by decide +kernel
theorem d_M_closing_97 : decode b_M_closing 97 = .ok (.iconst 1, 1) := by decide +kernel
theorem d_M_closing_98 : decode b_M_closing 98 = .ok (.goto 4, 3) := by decide +kernel
theorem d_M_closing_101 : decode b_M_closing 101 = .ok (.iconst 0, 1) := by decide +kernel
theorem d_M_closing_102 : decode b_M_closing 102 = .ok (.iadd, 1) := by decide +kernel
theorem d_M_closing_103 : decode b_M_closing 103 = .ok (.istore 7, 2) := by decide +kernel
theorem d_M_closing_105 : decode b_M_closing 105 = .ok (.aload_n 0, 1) := by decide +kernel
theorem d_M_closing_106 : decode b_M_closing 106 = .ok (.getfield 13, 3) := by decide +kernel
theorem d_M_closing_109 : decode b_M_closing 109 = .ok (.iload_n 3, 1) := by decide +kernel
theorem d_M_closing_110 : decode b_M_closing 110 = .ok (.iaload, 1) := by decide +kernel
theorem d_M_closing_111 : decode b_M_closing 111 = .ok (.aload_n 0, 1) := by decide +kernel
theorem d_M_closing_112 : decode b_M_closing 112 = .ok (.getfield 13, 3) := by decide +kernel
theorem d_M_closing_115 : decode b_M_closing 115 = .ok (.iload 5, 2) := by decide +kernel
theorem d_M_closing_117 : decode b_M_closing 117 = .ok (.iaload, 1) := by decide +kernel
theorem d_M_closing_118 : decode b_M_closing 118 = .ok (.if_icmp .ne 20, 3) := by decide +kernel
theorem d_M_closing_121 : decode b_M_closing 121 = .ok (.aload_n 0, 1) := by decide +kernel
theorem d_M_closing_122 : decode b_M_closing 122 = .ok (.getfield 13, 3) := by decide +kernel
theorem d_M_closing_125 : decode b_M_closing 125 = .ok (.iload 4, 2) := by decide +kernel
theorem d_M_closing_127 : decode b_M_closing 127 = .ok (.iaload, 1) := by decide +kernel
theorem d_M_closing_128 : decode b_M_closing 128 = .ok (.aload_n 0, 1) := by decide +kernel
theorem d_M_closing_129 : decode b_M_closing 129 = .ok (.getfield 13, 3) := by decide +kernel
theorem d_M_closing_132 : decode b_M_closing 132 = .ok (.iload 6, 2) := by decide +kernel
theorem d_M_closing_134 : decode b_M_closing 134 = .ok (.iaload, 1) := by decide +kernel
theorem d_M_closing_135 : decode b_M_closing 135 = .ok (.if_icmp .eq 36, 3) := by decide +kernel
theorem d_M_closing_138 : decode b_M_closing 138 = .ok (.aload_n 0, 1) := by decide +kernel
theorem d_M_closing_139 : decode b_M_closing 139 = .ok (.getfield 13, 3) := by decide +kernel
theorem d_M_closing_142 : decode b_M_closing 142 = .ok (.iload_n 3, 1) := by decide +kernel
theorem d_M_closing_143 : decode b_M_closing 143 = .ok (.iaload, 1) := by decide +kernel
theorem d_M_closing_144 : decode b_M_closing 144 = .ok (.aload_n 0, 1) := by decide +kernel
theorem d_M_closing_145 : decode b_M_closing 145 = .ok (.getfield 13, 3) := by decide +kernel
theorem d_M_closing_148 : decode b_M_closing 148 = .ok (.iload 6, 2) := by decide +kernel
theorem d_M_closing_150 : decode b_M_closing 150 = .ok (.iaload, 1) := by decide +kernel
theorem d_M_closing_151 : decode b_M_closing 151 = .ok (.if_icmp .ne 24, 3) := by decide +kernel
theorem d_M_closing_154 : decode b_M_closing 154 = .ok (.aload_n 0, 1) := by decide +kernel
theorem d_M_closing_155 : decode b_M_closing 155 = .ok (.getfield 13, 3) := by decide +kernel
theorem d_M_closing_158 : decode b_M_closing 158 = .ok (.iload 4, 2) := by decide +kernel
theorem d_M_closing_160 : decode b_M_closing 160 = .ok (.iaload, 1) := by decide +kernel
theorem d_M_closing_161 : decode b_M_closing 161 = .ok (.aload_n 0, 1) := by decide +kernel
theorem d_M_closing_162 : decode b_M_closing 162 = .ok (.getfield 13, 3) := by decide +kernel
theorem d_M_closing_165 : decode b_M_closing 165 = .ok (.iload 5, 2) := by decide +kernel
theorem d_M_closing_167 : decode b_M_closing 167 = .ok (.iaload, 1) := by decide +kernel
theorem d_M_closing_168 : decode b_M_closing 168 = .ok (.if_icmp .ne 7, 3) := by decide +kernel
theorem d_M_closing_171 : decode b_M_closing 171 = .ok (.iconst 1, 1) := by decide +kernel
theorem d_M_closing_172 : decode b_M_closing 172 = .ok (.goto 4, 3) := by decide +kernel
theorem d_M_closing_175 : decode b_M_closing 175 = .ok (.iconst 0, 1) := by decide +kernel
theorem d_M_closing_176 : decode b_M_closing 176 = .ok (.istore 8, 2) := by decide +kernel
theorem d_M_closing_178 : decode b_M_closing 178 = .ok (.iload 7, 2) := by decide +kernel
theorem d_M_closing_180 : decode b_M_closing 180 = .ok (.ifCond .ne 12, 3) := by decide +kernel
theorem d_M_closing_183 : decode b_M_closing 183 = .ok (.iload 8, 2) := by decide +kernel
theorem d_M_closing_185 : decode b_M_closing 185 = .ok (.ifCond .eq 7, 3) := by decide +kernel
theorem d_M_closing_188 : decode b_M_closing 188 = .ok (.iconst 1, 1) := by decide +kernel
theorem d_M_closing_189 : decode b_M_closing 189 = .ok (.goto 5, 3) := by decide +kernel
theorem d_M_closing_192 : decode b_M_closing 192 = .ok (.iload 7, 2) := by decide +kernel
theorem d_M_closing_194 : decode b_M_closing 194 = .ok (.ireturn, 1) := by decide +kernel
theorem d_M_resolve_0 : decode b_M_resolve 0 = .ok (.iload_n 1, 1) := by decide +kernel
theorem d_M_resolve_1 : decode b_M_resolve 1 = .ok (.ifCond .lt 34, 3) := by decide +kernel
theorem d_M_resolve_4 : decode b_M_resolve 4 = .ok (.iload_n 1, 1) := by decide +kernel
theorem d_M_resolve_5 : decode b_M_resolve 5 = .ok (.aload_n 0, 1) := by decide +kernel
theorem d_M_resolve_6 : decode b_M_resolve 6 = .ok (.getfield 43, 3) := by decide +kernel
theorem d_M_resolve_9 : decode b_M_resolve 9 = .ok (.if_icmp .ge 26, 3) := by decide +kernel
theorem d_M_resolve_12 : decode b_M_resolve 12 = .ok (.aload_n 0, 1) := by decide +kernel
theorem d_M_resolve_13 : decode b_M_resolve 13 = .ok (.invokevirtual 61, 3) := by decide +kernel
theorem d_M_resolve_16 : decode b_M_resolve 16 = .ok (.ifCond .gt 19, 3) := by decide +kernel
theorem d_M_resolve_19 : decode b_M_resolve 19 = .ok (.aload_n 0, 1) := by decide +kernel
theorem d_M_resolve_20 : decode b_M_resolve 20 = .ok (.getfield 50, 3) := by decide +kernel
theorem d_M_resolve_23 : decode b_M_resolve 23 = .ok (.aload_n 0, 1) := by decide +kernel
theorem d_M_resolve_24 : decode b_M_resolve 24 = .ok (.iload_n 1, 1) := by decide +kernel
theorem d_M_resolve_25 : decode b_M_resolve 25 = .ok (.iload_n 2, 1) := by decide +kernel
theorem d_M_resolve_26 : decode b_M_resolve 26 = .ok (.invokevirtual 102, 3) := by decide +kernel
theorem d_M_resolve_29 : decode b_M_resolve 29 = .ok (.iadd, 1) := by decide +kernel
theorem d_M_resolve_30 : decode b_M_resolve 30 = .ok (.bipush 9, 2) := by decide +kernel
theorem d_M_resolve_32 : decode b_M_resolve 32 = .ok (.if_icmp .le 5, 3) := by decide +kernel
theorem d_M_resolve_35 : decode b_M_resolve 35 = .ok (.iconst 0, 1) := by decide +kernel
theorem d_M_resolve_36 : decode b_M_resolve 36 = .ok (.ireturn, 1) := by decide +kernel
theorem d_M_resolve_37 : decode b_M_resolve 37 = .ok (.iconst 0, 1) := by decide +kernel
theorem d_M_resolve_38 : decode b_M_resolve 38 = .ok (.istore_n 3, 1) := by decide +kernel
theorem d_M_resolve_39 : decode b_M_resolve 39 = .ok (.iload_n 3, 1) := by decide +kernel
theorem d_M_resolve_40 : decode b_M_resolve 40 = .ok (.iconst 4, 1) := by decide +kernel
theorem d_M_resolve_41 : decode b_M_resolve 41 = .ok (.if_icmp .ge 25, 3) := by decide +kernel
theorem d_M_resolve_44 : decode b_M_resolve 44 = .ok (.aload_n 0, 1) := by decide +kernel
theorem d_M_resolve_45 : decode b_M_resolve 45 = .ok (.getfield 36, 3) := by decide +kernel
theorem d_M_resolve_48 : decode b_M_resolve 48 = .ok (.iload_n 3, 1) := by decide +kernel
theorem d_M_resolve_49 : decode b_M_resolve 49 = .ok (.aload_n 0, 1) := by decide +kernel
theorem d_M_resolve_50 : decode b_M_resolve 50 = .ok (.getfield 13, 3) := by decide +kernel
theorem d_M_resolve_53 : decode b_M_resolve 53 = .ok (.iconst 4, 1) := by decide +kernel
theorem d_M_resolve_54 : decode b_M_resolve 54 = .ok (.iload_n 1, 1) := by decide +kernel
theorem d_M_resolve_55 : decode b_M_resolve 55 = .ok (.imul, 1) := by decide +kernel
theorem d_M_resolve_56 : decode b_M_resolve 56 = .ok (.iload_n 3, 1) := by decide +kernel
theorem d_M_resolve_57 : decode b_M_resolve 57 = .ok (.iadd, 1) := by decide +kernel
theorem d_M_resolve_58 : decode b_M_resolve 58 = .ok (.iaload, 1) := by decide +kernel
theorem d_M_resolve_59 : decode b_M_resolve 59 = .ok (.iastore, 1) := by decide +kernel
theorem d_M_resolve_60 : decode b_M_resolve 60 = .ok (.iinc 3 1, 3) := by decide +kernel
theorem d_M_resolve_63 : decode b_M_resolve 63 = .ok (.goto (-24), 3) := by decide +kernel
theorem d_M_resolve_66 : decode b_M_resolve 66 = .ok (.aload_n 0, 1) := by decide +kernel
theorem d_M_resolve_67 : decode b_M_resolve 67 = .ok (.dup, 1) := by decide +kernel
theorem d_M_resolve_68 : decode b_M_resolve 68 = .ok (.getfield 43, 3) := by decide +kernel
theorem d_M_resolve_71 : decode b_M_resolve 71 = .ok (.iconst 1, 1) := by decide +kernel
theorem d_M_resolve_72 : decode b_M_resolve 72 = .ok (.isub, 1) := by decide +kernel
theorem d_M_resolve_73 : decode b_M_resolve 73 = .ok (.putfield 43, 3) := by decide +kernel
theorem d_M_resolve_76 : decode b_M_resolve 76 = .ok (.iload_n 1, 1) := by decide +kernel
theorem d_M_resolve_77 : decode b_M_resolve 77 = .ok (.istore_n 3, 1) := by decide +kernel
theorem d_M_resolve_78 : decode b_M_resolve 78 = .ok (.iload_n 3, 1) := by decide +kernel
theorem d_M_resolve_79 : decode b_M_resolve 79 = .ok (.aload_n 0, 1) := by decide +kernel
theorem d_M_resolve_80 : decode b_M_resolve 80 = .ok (.getfield 43, 3) := by decide +kernel
theorem d_M_resolve_83 : decode b_M_resolve 83 = .ok (.if_icmp .ge 62, 3) := by decide +kernel
theorem d_M_resolve_86 : decode b_M_resolve 86 = .ok (.aload_n 0, 1) := by decide +kernel
theorem d_M_resolve_87 : decode b_M_resolve 87 = .ok (.getfield 7, 3) := by decide +kernel
theorem d_M_resolve_90 : decode b_M_resolve 90 = .ok (.iload_n 3, 1) := by decide +kernel
theorem d_M_resolve_91 : decode b_M_resolve 91 = .ok (.aload_n 0, 1) := by decide +kernel
theorem d_M_resolve_92 : decode b_M_resolve 92 = .ok (.getfield 7, 3) := by decide +kernel
theorem d_M_resolve_95 : decode b_M_resolve 95 = .ok (.iload_n 3, 1) := by decide +kernel
theorem d_M_resolve_96 : decode b_M_resolve 96 = .ok (.iconst 1, 1) := by decide +kernel
theorem d_M_resolve_97 : decode b_M_resolve 97 = .ok (.iadd, 1) := by decide +kernel
theorem d_M_resolve_98 : decode b_M_resolve 98 = .ok (.iaload, 1) := by decide +kernel
theorem d_M_resolve_99 : decode b_M_resolve 99 = .ok (.iastore, 1) := by decide +kernel
theorem d_M_resolve_100 : decode b_M_resolve 100 = .ok (.iconst 0, 1) := by decide +kernel
theorem d_M_resolve_101 : decode b_M_resolve 101 = .ok (.istore 4, 2) := by decide +kernel
theorem d_M_resolve_103 : decode b_M_resolve 103 = .ok (.iload 4, 2) := by decide +kernel
theorem d_M_resolve_105 : decode b_M_resolve 105 = .ok (.iconst 4, 1) := by decide +kernel
theorem d_M_resolve_106 : decode b_M_resolve 106 = .ok (.if_icmp .ge 33, 3) := by decide +kernel
theorem d_M_resolve_109 : decode b_M_resolve 109 = .ok (.aload_n 0, 1) := by decide +kernel
theorem d_M_resolve_110 : decode b_M_resolve 110 = .ok (.getfield 13, 3) := by decide +kernel
theorem d_M_resolve_113 : decode b_M_resolve 113 = .ok (.iconst 4, 1) := by decide +kernel
theorem d_M_resolve_114 : decode b_M_resolve 114 = .ok (.iload_n 3, 1) := by decide +kernel
theorem d_M_resolve_115 : decode b_M_resolve 115 = .ok (.imul, 1) := by decide +kernel
theorem d_M_resolve_116 : decode b_M_resolve 116 = .ok (.iload 4, 2) := by decide +kernel
theorem d_M_resolve_118 : decode b_M_resolve 118 = .ok (.iadd, 1) := by decide +kernel
theorem d_M_resolve_119 : decode b_M_resolve 119 = .ok (.aload_n 0, 1) := by decide +kernel
theorem d_M_resolve_120 : decode b_M_resolve 120 = .ok (.getfield 13, 3) := by decide +kernel
theorem d_M_resolve_123 : decode b_M_resolve 123 = .ok (.iconst 4, 1) := by decide +kernel
theorem d_M_resolve_124 : decode b_M_resolve 124 = .ok (.iload_n 3, 1) := by decide +kernel
theorem d_M_resolve_125 : decode b_M_resolve 125 = .ok (.imul, 1) := by decide +kernel
theorem d_M_resolve_126 : decode b_M_resolve 126 = .ok (.iconst 4, 1) := by decide +kernel
theorem d_M_resolve_127 : decode b_M_resolve 127 = .ok (.iadd, 1) := by decide +kernel
theorem d_M_resolve_128 : decode b_M_resolve 128 = .ok (.iload 4, 2) := by decide +kernel
theorem d_M_resolve_130 : decode b_M_resolve 130 = .ok (.iadd, 1) := by decide +kernel
theorem d_M_resolve_131 : decode b_M_resolve 131 = .ok (.iaload, 1) := by decide +kernel
theorem d_M_resolve_132 : decode b_M_resolve 132 = .ok (.iastore, 1) := by decide +kernel
theorem d_M_resolve_133 : decode b_M_resolve 133 = .ok (.iinc 4 1, 3) := by decide +kernel
theorem d_M_resolve_136 : decode b_M_resolve 136 = .ok (.goto (-33), 3) := by decide +kernel
theorem d_M_resolve_139 : decode b_M_resolve 139 = .ok (.iinc 3 1, 3) := by decide +kernel
theorem d_M_resolve_142 : decode b_M_resolve 142 = .ok (.goto (-64), 3) := by decide +kernel
theorem d_M_resolve_145 : decode b_M_resolve 145 = .ok (.aload_n 0, 1) := by decide +kernel
theorem d_M_resolve_146 : decode b_M_resolve 146 = .ok (.dup, 1) := by decide +kernel
theorem d_M_resolve_147 : decode b_M_resolve 147 = .ok (.getfield 50, 3) := by decide +kernel
theorem d_M_resolve_150 : decode b_M_resolve 150 = .ok (.iload_n 2, 1) := by decide +kernel
theorem d_M_resolve_151 : decode b_M_resolve 151 = .ok (.ifCond .eq 22, 3) := by decide +kernel
theorem d_M_resolve_154 : decode b_M_resolve 154 = .ok (.aload_n 0, 1) := by decide +kernel
theorem d_M_resolve_155 : decode b_M_resolve 155 = .ok (.aload_n 0, 1) := by decide +kernel
theorem d_M_resolve_156 : decode b_M_resolve 156 = .ok (.getfield 36, 3) := by decide +kernel
theorem d_M_resolve_159 : decode b_M_resolve 159 = .ok (.iconst 0, 1) := by decide +kernel
theorem d_M_resolve_160 : decode b_M_resolve 160 = .ok (.iaload, 1) := by decide +kernel
theorem d_M_resolve_161 : decode b_M_resolve 161 = .ok (.aload_n 0, 1) := by decide +kernel
theorem d_M_resolve_162 : decode b_M_resolve 162 = .ok (.getfield 36, 3) := by decide +kernel
theorem d_M_resolve_165 : decode b_M_resolve 165 = .ok (.iconst 1, 1) := by decide +kernel
theorem d_M_resolve_166 : decode b_M_resolve 166 = .ok (.iaload, 1) := by decide +kernel
theorem d_M_resolve_167 : decode b_M_resolve 167 = .ok (.invokevirtual 105, 3) := by decide +kernel
theorem d_M_resolve_170 : decode b_M_resolve 170 = .ok (.goto 19, 3) := by decide +kernel
theorem d_M_resolve_173 : decode b_M_resolve 173 = .ok (.aload_n 0, 1) := by decide +kernel
theorem d_M_resolve_174 : decode b_M_resolve 174 = .ok (.aload_n 0, 1) := by decide +kernel
theorem d_M_resolve_175 : decode b_M_resolve 175 = .ok (.getfield 36, 3) := by decide +kernel
theorem d_M_resolve_178 : decode b_M_resolve 178 = .ok (.iconst 1, 1) := by decide +kernel
theorem d_M_resolve_179 : decode b_M_resolve 179 = .ok (.iaload, 1) := by decide +kernel
theorem d_M_resolve_180 : decode b_M_resolve 180 = .ok (.aload_n 0, 1) := by decide +kernel
theorem d_M_resolve_181 : decode b_M_resolve 181 = .ok (.getfield 36, 3) := by decide +kernel
theorem d_M_resolve_184 : decode b_M_resolve 184 = .ok (.iconst 2, 1) := by decide +kernel
theorem d_M_resolve_185 : decode b_M_resolve 185 = .ok (.iaload, 1) := by decide +kernel
theorem d_M_resolve_186 : decode b_M_resolve 186 = .ok (.invokevirtual 105, 3) := by decide +kernel
theorem d_M_resolve_189 : decode b_M_resolve 189 = .ok (.iadd, 1) := by decide +kernel
theorem d_M_resolve_190 : decode b_M_resolve 190 = .ok (.putfield 50, 3) := by decide +kernel
theorem d_M_resolve_193 : decode b_M_resolve 193 = .ok (.aload_n 0, 1) := by decide +kernel
theorem d_M_resolve_194 : decode b_M_resolve 194 = .ok (.dup, 1) := by decide +kernel
theorem d_M_resolve_195 : decode b_M_resolve 195 = .ok (.getfield 50, 3) := by decide +kernel
theorem d_M_resolve_198 : decode b_M_resolve 198 = .ok (.iload_n 2, 1) := by decide +kernel
theorem d_M_resolve_199 : decode b_M_resolve 199 = .ok (.ifCond .eq 22, 3) := by decide +kernel
theorem d_M_resolve_202 : decode b_M_resolve 202 = .ok (.aload_n 0, 1) := by decide +kernel
theorem d_M_resolve_203 : decode b_M_resolve 203 = .ok (.aload_n 0, 1) := by decide +kernel
theorem d_M_resolve_204 : decode b_M_resolve 204 = .ok (.getfield 36, 3) := by decide +kernel
theorem d_M_resolve_207 : decode b_M_resolve 207 = .ok (.iconst 2, 1) := by decide +kernel
theorem d_M_resolve_208 : decode b_M_resolve 208 = .ok (.iaload, 1) := by decide +kernel
theorem d_M_resolve_209 : decode b_M_resolve 209 = .ok (.aload_n 0, 1) := by decide +kernel
theorem d_M_resolve_210 : decode b_M_resolve 210 = .ok (.getfield 36, 3) := by decide +kernel
theorem d_M_resolve_213 : decode b_M_resolve 213 = .ok (.iconst 3, 1) := by decide +kernel
theorem d_M_resolve_214 : decode b_M_resolve 214 = .ok (.iaload, 1) := by decide +kernel
theorem d_M_resolve_215 : decode b_M_resolve 215 = .ok (.invokevirtual 105, 3) := by decide +kernel
theorem d_M_resolve_218 : decode b_M_resolve 218 = .ok (.goto 19, 3) := by decide +kernel
theorem d_M_resolve_221 : decode b_M_resolve 221 = .ok (.aload_n 0, 1) := by decide +kernel
theorem d_M_resolve_222 : decode b_M_resolve 222 = .ok (.aload_n 0, 1) := by decide +kernel
theorem d_M_resolve_223 : decode b_M_resolve 223 = .ok (.getfield 36, 3) := by decide +kernel
theorem d_M_resolve_226 : decode b_M_resolve 226 = .ok (.iconst 3, 1) := by decide +kernel
theorem d_M_resolve_227 : decode b_M_resolve 227 = .ok (.iaload, 1) := by decide +kernel
theorem d_M_resolve_228 : decode b_M_resolve 228 = .ok (.aload_n 0, 1) := by decide +kernel
theorem d_M_resolve_229 : decode b_M_resolve 229 = .ok (.getfield 36, 3) := by decide +kernel
theorem d_M_resolve_232 : decode b_M_resolve 232 = .ok (.iconst 0, 1) := by decide +kernel
theorem d_M_resolve_233 : decode b_M_resolve 233 = .ok (.iaload, 1) := by decide +kernel
theorem d_M_resolve_234 : decode b_M_resolve 234 = .ok (.invokevirtual 105, 3) := by decide +kernel
theorem d_M_resolve_237 : decode b_M_resolve 237 = .ok (.iadd, 1) := by decide +kernel
theorem d_M_resolve_238 : decode b_M_resolve 238 = .ok (.putfield 50, 3) := by decide +kernel
theorem d_M_resolve_241 : decode b_M_resolve 241 = .ok (.aload_n 0, 1) := by decide +kernel
theorem d_M_resolve_242 : decode b_M_resolve 242 = .ok (.iconst 0, 1) := by decide +kernel
theorem d_M_resolve_243 : decode b_M_resolve 243 = .ok (.putfield 46, 3) := by decide +kernel
theorem d_M_resolve_246 : decode b_M_resolve 246 = .ok (.iconst 1, 1) := by decide +kernel
theorem d_M_resolve_247 : decode b_M_resolve 247 = .ok (.ireturn, 1) := by decide +kernel
theorem d_M_change_0 : decode b_M_change 0 = .ok (.iload_n 1, 1) := by decide +kernel
theorem d_M_change_1 : decode b_M_change 1 = .ok (.ifCond .lt 11, 3) := by decide +kernel
theorem d_M_change_4 : decode b_M_change 4 = .ok (.iload_n 1, 1) := by decide +kernel
theorem d_M_change_5 : decode b_M_change 5 = .ok (.aload_n 0, 1) := by decide +kernel
theorem d_M_change_6 : decode b_M_change 6 = .ok (.getfield 43, 3) := by decide +kernel
theorem d_M_change_9 : decode b_M_change 9 = .ok (.if_icmp .lt 5, 3) := by decide +kernel
theorem d_M_change_12 : decode b_M_change 12 = .ok (.iconst 0, 1) := by decide +kernel
theorem d_M_change_13 : decode b_M_change 13 = .ok (.ireturn, 1) := by decide +kernel
theorem d_M_change_14 : decode b_M_change 14 = .ok (.aload_n 0, 1) := by decide +kernel
theorem d_M_change_15 : decode b_M_change 15 = .ok (.getfield 13, 3) := by decide +kernel
theorem d_M_change_18 : decode b_M_change 18 = .ok (.iconst 4, 1) := by decide +kernel
theorem d_M_change_19 : decode b_M_change 19 = .ok (.iload_n 1, 1) := by decide +kernel
theorem d_M_change_20 : decode b_M_change 20 = .ok (.imul, 1) := by decide +kernel
theorem d_M_change_21 : decode b_M_change 21 = .ok (.iaload, 1) := by decide +kernel
theorem d_M_change_22 : decode b_M_change 22 = .ok (.istore_n 2, 1) := by decide +kernel
theorem d_M_change_23 : decode b_M_change 23 = .ok (.iconst 0, 1) := by decide +kernel
theorem d_M_change_24 : decode b_M_change 24 = .ok (.istore_n 3, 1) := by decide +kernel
theorem d_M_change_25 : decode b_M_change 25 = .ok (.iload_n 3, 1) := by decide +kernel
theorem d_M_change_26 : decode b_M_change 26 = .ok (.iconst 3, 1) := by decide +kernel
theorem d_M_change_27 : decode b_M_change 27 = .ok (.if_icmp .ge 31, 3) := by decide +kernel
theorem d_M_change_30 : decode b_M_change 30 = .ok (.aload_n 0, 1) := by decide +kernel
theorem d_M_change_31 : decode b_M_change 31 = .ok (.getfield 13, 3) := by decide +kernel
theorem d_M_change_34 : decode b_M_change 34 = .ok (.iconst 4, 1) := by decide +kernel
end
section
theorem d_M_change_35 : decode b_M_change 35 = .ok (.iload_n 1, 1) := by decide +kernel
theorem d_M_change_36 : decode b_M_change 36 = .ok (.imul, 1) := by decide +kernel
theorem d_M_change_37 : decode b_M_change 37 = .ok (.iload_n 3, 1) := by decide +kernel
theorem d_M_change_38 : decode b_M_change 38 = .ok (.iadd, 1) := by decide +kernel
theorem d_M_change_39 : decode b_M_change 39 = .ok (.aload_n 0, 1) := by decide +kernel
theorem d_M_change_40 : decode b_M_change 40 = .ok (.getfield 13, 3) := by decide +kernel
theorem d_M_change_43 : decode b_M_change 43 = .ok (.iconst 4, 1) := by decide +kernel
theorem d_M_change_44 : decode b_M_change 44 = .ok (.iload_n 1, 1) := by decide +kernel
theorem d_M_change_45 : decode b_M_change 45 = .ok (.imul, 1) := by decide +kernel
theorem d_M_change_46 : decode b_M_change 46 = .ok (.iload_n 3, 1) := by decide +kernel
theorem d_M_change_47 : decode b_M_change 47 = .ok (.iadd, 1) := by decide +kernel
theorem d_M_change_48 : decode b_M_change 48 = .ok (.iconst 1, 1) := by decide +kernel
theorem d_M_change_49 : decode b_M_change 49 = .ok (.iadd, 1) := by decide +kernel
theorem d_M_change_50 : decode b_M_change 50 = .ok (.iaload, 1) := by decide +kernel
theorem d_M_change_51 : decode b_M_change 51 = .ok (.iastore, 1) := by decide +kernel
theorem d_M_change_52 : decode b_M_change 52 = .ok (.iinc 3 1, 3) := by decide +kernel
theorem d_M_change_55 : decode b_M_change 55 = .ok (.goto (-30), 3) := by decide +kernel
theorem d_M_change_58 : decode b_M_change 58 = .ok (.aload_n 0, 1) := by decide +kernel
theorem d_M_change_59 : decode b_M_change 59 = .ok (.getfield 13, 3) := by decide +kernel
theorem d_M_change_62 : decode b_M_change 62 = .ok (.iconst 4, 1) := by decide +kernel
theorem d_M_change_63 : decode b_M_change 63 = .ok (.iload_n 1, 1) := by decide +kernel
theorem d_M_change_64 : decode b_M_change 64 = .ok (.imul, 1) := by decide +kernel
theorem d_M_change_65 : decode b_M_change 65 = .ok (.iconst 3, 1) := by decide +kernel
theorem d_M_change_66 : decode b_M_change 66 = .ok (.iadd, 1) := by decide +kernel
theorem d_M_change_67 : decode b_M_change 67 = .ok (.iload_n 2, 1) := by decide +kernel
theorem d_M_change_68 : decode b_M_change 68 = .ok (.iastore, 1) := by decide +kernel
theorem d_M_change_69 : decode b_M_change 69 = .ok (.aload_n 0, 1) := by decide +kernel
theorem d_M_change_70 : decode b_M_change 70 = .ok (.getfield 7, 3) := by decide +kernel
theorem d_M_change_73 : decode b_M_change 73 = .ok (.iload_n 1, 1) := by decide +kernel
theorem d_M_change_74 : decode b_M_change 74 = .ok (.aload_n 0, 1) := by decide +kernel
theorem d_M_change_75 : decode b_M_change 75 = .ok (.getfield 7, 3) := by decide +kernel
theorem d_M_change_78 : decode b_M_change 78 = .ok (.iload_n 1, 1) := by decide +kernel
theorem d_M_change_79 : decode b_M_change 79 = .ok (.iaload, 1) := by decide +kernel
theorem d_M_change_80 : decode b_M_change 80 = .ok (.ineg, 1) := by decide +kernel
theorem d_M_change_81 : decode b_M_change 81 = .ok (.iastore, 1) := by decide +kernel
theorem d_M_change_82 : decode b_M_change 82 = .ok (.aload_n 0, 1) := by decide +kernel
theorem d_M_change_83 : decode b_M_change 83 = .ok (.iconst 0, 1) := by decide +kernel
theorem d_M_change_84 : decode b_M_change 84 = .ok (.putfield 46, 3) := by decide +kernel
theorem d_M_change_87 : decode b_M_change 87 = .ok (.iconst 1, 1) := by decide +kernel
theorem d_M_change_88 : decode b_M_change 88 = .ok (.ireturn, 1) := by decide +kernel
theorem d_M_exchange_0 : decode b_M_exchange 0 = .ok (.aload_n 0, 1) := by decide +kernel
theorem d_M_exchange_1 : decode b_M_exchange 1 = .ok (.getfield 7, 3) := by decide +kernel
theorem d_M_exchange_4 : decode b_M_exchange 4 = .ok (.iload_n 1, 1) := by decide +kernel
theorem d_M_exchange_5 : decode b_M_exchange 5 = .ok (.iaload, 1) := by decide +kernel
theorem d_M_exchange_6 : decode b_M_exchange 6 = .ok (.istore_n 2, 1) := by decide +kernel
theorem d_M_exchange_7 : decode b_M_exchange 7 = .ok (.aload_n 0, 1) := by decide +kernel
theorem d_M_exchange_8 : decode b_M_exchange 8 = .ok (.getfield 7, 3) := by decide +kernel
theorem d_M_exchange_11 : decode b_M_exchange 11 = .ok (.iload_n 1, 1) := by decide +kernel
theorem d_M_exchange_12 : decode b_M_exchange 12 = .ok (.aload_n 0, 1) := by decide +kernel
theorem d_M_exchange_13 : decode b_M_exchange 13 = .ok (.getfield 7, 3) := by decide +kernel
theorem d_M_exchange_16 : decode b_M_exchange 16 = .ok (.iload_n 1, 1) := by decide +kernel
theorem d_M_exchange_17 : decode b_M_exchange 17 = .ok (.iconst 1, 1) := by decide +kernel
theorem d_M_exchange_18 : decode b_M_exchange 18 = .ok (.iadd, 1) := by decide +kernel
theorem d_M_exchange_19 : decode b_M_exchange 19 = .ok (.iaload, 1) := by decide +kernel
theorem d_M_exchange_20 : decode b_M_exchange 20 = .ok (.iastore, 1) := by decide +kernel
theorem d_M_exchange_21 : decode b_M_exchange 21 = .ok (.aload_n 0, 1) := by decide +kernel
theorem d_M_exchange_22 : decode b_M_exchange 22 = .ok (.getfield 7, 3) := by decide +kernel
theorem d_M_exchange_25 : decode b_M_exchange 25 = .ok (.iload_n 1, 1) := by decide +kernel
theorem d_M_exchange_26 : decode b_M_exchange 26 = .ok (.iconst 1, 1) := by decide +kernel
theorem d_M_exchange_27 : decode b_M_exchange 27 = .ok (.iadd, 1) := by decide +kernel
theorem d_M_exchange_28 : decode b_M_exchange 28 = .ok (.iload_n 2, 1) := by decide +kernel
theorem d_M_exchange_29 : decode b_M_exchange 29 = .ok (.iastore, 1) := by decide +kernel
theorem d_M_exchange_30 : decode b_M_exchange 30 = .ok (.iconst 0, 1) := by decide +kernel
theorem d_M_exchange_31 : decode b_M_exchange 31 = .ok (.istore_n 3, 1) := by decide +kernel
theorem d_M_exchange_32 : decode b_M_exchange 32 = .ok (.iload_n 3, 1) := by decide +kernel
theorem d_M_exchange_33 : decode b_M_exchange 33 = .ok (.iconst 4, 1) := by decide +kernel
theorem d_M_exchange_34 : decode b_M_exchange 34 = .ok (.if_icmp .ge 57, 3) := by decide +kernel
theorem d_M_exchange_37 : decode b_M_exchange 37 = .ok (.aload_n 0, 1) := by decide +kernel
theorem d_M_exchange_38 : decode b_M_exchange 38 = .ok (.getfield 13, 3) := by decide +kernel
theorem d_M_exchange_41 : decode b_M_exchange 41 = .ok (.iconst 4, 1) := by decide +kernel
theorem d_M_exchange_42 : decode b_M_exchange 42 = .ok (.iload_n 1, 1) := by decide +kernel
theorem d_M_exchange_43 : decode b_M_exchange 43 = .ok (.imul, 1) := by decide +kernel
theorem d_M_exchange_44 : decode b_M_exchange 44 = .ok (.iload_n 3, 1) := by decide +kernel
theorem d_M_exchange_45 : decode b_M_exchange 45 = .ok (.iadd, 1) := by decide +kernel
theorem d_M_exchange_46 : decode b_M_exchange 46 = .ok (.iaload, 1) := by decide +kernel
theorem d_M_exchange_47 : decode b_M_exchange 47 = .ok (.istore 4, 2) := by decide +kernel
theorem d_M_exchange_49 : decode b_M_exchange 49 = .ok (.aload_n 0, 1) := by decide +kernel
theorem d_M_exchange_50 : decode b_M_exchange 50 = .ok (.getfield 13, 3) := by decide +kernel
theorem d_M_exchange_53 : decode b_M_exchange 53 = .ok (.iconst 4, 1) := by decide +kernel
theorem d_M_exchange_54 : decode b_M_exchange 54 = .ok (.iload_n 1, 1) := by decide +kernel
theorem d_M_exchange_55 : decode b_M_exchange 55 = .ok (.imul, 1) := by decide +kernel
theorem d_M_exchange_56 : decode b_M_exchange 56 = .ok (.iload_n 3, 1) := by decide +kernel
theorem d_M_exchange_57 : decode b_M_exchange 57 = .ok (.iadd, 1) := by decide +kernel
theorem d_M_exchange_58 : decode b_M_exchange 58 = .ok (.aload_n 0, 1) := by decide +kernel
theorem d_M_exchange_59 : decode b_M_exchange 59 = .ok (.getfield 13, 3) := by decide +kernel
theorem d_M_exchange_62 : decode b_M_exchange 62 = .ok (.iconst 4, 1) := by decide +kernel
theorem d_M_exchange_63 : decode b_M_exchange 63 = .ok (.iload_n 1, 1) := by decide +kernel
theorem d_M_exchange_64 : decode b_M_exchange 64 = .ok (.imul, 1) := by decide +kernel
theorem d_M_exchange_65 : decode b_M_exchange 65 = .ok (.iconst 4, 1) := by decide +kernel
theorem d_M_exchange_66 : decode b_M_exchange 66 = .ok (.iadd, 1) := by decide +kernel
theorem d_M_exchange_67 : decode b_M_exchange 67 = .ok (.iload_n 3, 1) := by decide +kernel
theorem d_M_exchange_68 : decode b_M_exchange 68 = .ok (.iadd, 1) := by decide +kernel
theorem d_M_exchange_69 : decode b_M_exchange 69 = .ok (.iaload, 1) := by decide +kernel
theorem d_M_exchange_70 : decode b_M_exchange 70 = .ok (.iastore, 1) := by decide +kernel
theorem d_M_exchange_71 : decode b_M_exchange 71 = .ok (.aload_n 0, 1) := by decide +kernel
theorem d_M_exchange_72 : decode b_M_exchange 72 = .ok (.getfield 13, 3) := by decide +kernel
theorem d_M_exchange_75 : decode b_M_exchange 75 = .ok (.iconst 4, 1) := by decide +kernel
theorem d_M_exchange_76 : decode b_M_exchange 76 = .ok (.iload_n 1, 1) := by decide +kernel
theorem d_M_exchange_77 : decode b_M_exchange 77 = .ok (.imul, 1) := by decide +kernel
theorem d_M_exchange_78 : decode b_M_exchange 78 = .ok (.iconst 4, 1) := by decide +kernel
theorem d_M_exchange_79 : decode b_M_exchange 79 = .ok (.iadd, 1) := by decide +kernel
theorem d_M_exchange_80 : decode b_M_exchange 80 = .ok (.iload_n 3, 1) := by decide +kernel
theorem d_M_exchange_81 : decode b_M_exchange 81 = .ok (.iadd, 1) := by decide +kernel
theorem d_M_exchange_82 : decode b_M_exchange 82 = .ok (.iload 4, 2) := by decide +kernel
theorem d_M_exchange_84 : decode b_M_exchange 84 = .ok (.iastore, 1) := by decide +kernel
theorem d_M_exchange_85 : decode b_M_exchange 85 = .ok (.iinc 3 1, 3) := by decide +kernel
theorem d_M_exchange_88 : decode b_M_exchange 88 = .ok (.goto (-56), 3) := by decide +kernel
theorem d_M_exchange_91 : decode b_M_exchange 91 = .ok (.return_, 1) := by decide +kernel
theorem d_M_move_0 : decode b_M_move 0 = .ok (.iload_n 1, 1) := by decide +kernel
theorem d_M_move_1 : decode b_M_move 1 = .ok (.ifCond .lt 23, 3) := by decide +kernel
theorem d_M_move_4 : decode b_M_move 4 = .ok (.iload_n 1, 1) := by decide +kernel
theorem d_M_move_5 : decode b_M_move 5 = .ok (.aload_n 0, 1) := by decide +kernel
theorem d_M_move_6 : decode b_M_move 6 = .ok (.getfield 43, 3) := by decide +kernel
theorem d_M_move_9 : decode b_M_move 9 = .ok (.if_icmp .ge 15, 3) := by decide +kernel
theorem d_M_move_12 : decode b_M_move 12 = .ok (.iload_n 2, 1) := by decide +kernel
theorem d_M_move_13 : decode b_M_move 13 = .ok (.ifCond .lt 11, 3) := by decide +kernel
theorem d_M_move_16 : decode b_M_move 16 = .ok (.iload_n 2, 1) := by decide +kernel
theorem d_M_move_17 : decode b_M_move 17 = .ok (.aload_n 0, 1) := by decide +kernel
theorem d_M_move_18 : decode b_M_move 18 = .ok (.getfield 43, 3) := by decide +kernel
theorem d_M_move_21 : decode b_M_move 21 = .ok (.if_icmp .lt 5, 3) := by decide +kernel
theorem d_M_move_24 : decode b_M_move 24 = .ok (.iconst 0, 1) := by decide +kernel
theorem d_M_move_25 : decode b_M_move 25 = .ok (.ireturn, 1) := by decide +kernel
theorem d_M_move_26 : decode b_M_move 26 = .ok (.iload_n 1, 1) := by decide +kernel
theorem d_M_move_27 : decode b_M_move 27 = .ok (.istore_n 3, 1) := by decide +kernel
theorem d_M_move_28 : decode b_M_move 28 = .ok (.iload_n 3, 1) := by decide +kernel
theorem d_M_move_29 : decode b_M_move 29 = .ok (.iload_n 2, 1) := by decide +kernel
theorem d_M_move_30 : decode b_M_move 30 = .ok (.if_icmp .ge 14, 3) := by decide +kernel
theorem d_M_move_33 : decode b_M_move 33 = .ok (.aload_n 0, 1) := by decide +kernel
theorem d_M_move_34 : decode b_M_move 34 = .ok (.iload_n 3, 1) := by decide +kernel
theorem d_M_move_35 : decode b_M_move 35 = .ok (.invokevirtual 109, 3) := by decide +kernel
theorem d_M_move_38 : decode b_M_move 38 = .ok (.iinc 3 1, 3) := by decide +kernel
theorem d_M_move_41 : decode b_M_move 41 = .ok (.goto (-13), 3) := by decide +kernel
theorem d_M_move_44 : decode b_M_move 44 = .ok (.iload_n 1, 1) := by decide +kernel
theorem d_M_move_45 : decode b_M_move 45 = .ok (.iconst 1, 1) := by decide +kernel
theorem d_M_move_46 : decode b_M_move 46 = .ok (.isub, 1) := by decide +kernel
theorem d_M_move_47 : decode b_M_move 47 = .ok (.istore_n 3, 1) := by decide +kernel
theorem d_M_move_48 : decode b_M_move 48 = .ok (.iload_n 3, 1) := by decide +kernel
theorem d_M_move_49 : decode b_M_move 49 = .ok (.iload_n 2, 1) := by decide +kernel
theorem d_M_move_50 : decode b_M_move 50 = .ok (.if_icmp .lt 14, 3) := by decide +kernel
theorem d_M_move_53 : decode b_M_move 53 = .ok (.aload_n 0, 1) := by decide +kernel
theorem d_M_move_54 : decode b_M_move 54 = .ok (.iload_n 3, 1) := by decide +kernel
theorem d_M_move_55 : decode b_M_move 55 = .ok (.invokevirtual 109, 3) := by decide +kernel
theorem d_M_move_58 : decode b_M_move 58 = .ok (.iinc 3 (-1), 3) := by decide +kernel
theorem d_M_move_61 : decode b_M_move 61 = .ok (.goto (-13), 3) := by decide +kernel
theorem d_M_move_64 : decode b_M_move 64 = .ok (.iconst 1, 1) := by decide +kernel
theorem d_M_move_65 : decode b_M_move 65 = .ok (.ireturn, 1) := by decide +kernel
theorem d_P_init_0 : decode b_P_init 0 = .ok (.aload_n 0, 1) := by decide +kernel
theorem d_P_init_1 : decode b_P_init 1 = .ok (.invokespecial 3, 3) := by decide +kernel
theorem d_P_init_4 : decode b_P_init 4 = .ok (.aload_n 0, 1) := by decide +kernel
theorem d_P_init_5 : decode b_P_init 5 = .ok (.sipush 133, 3) := by decide +kernel
theorem d_P_init_8 : decode b_P_init 8 = .ok (.newarray .long, 2) := by decide +kernel
theorem d_P_init_10 : decode b_P_init 10 = .ok (.putfield 9, 3) := by decide +kernel
theorem d_P_init_13 : decode b_P_init 13 = .ok (.aload_n 0, 1) := by decide +kernel
theorem d_P_init_14 : decode b_P_init 14 = .ok (.sipush 133, 3) := by decide +kernel
theorem d_P_init_17 : decode b_P_init 17 = .ok (.newarray .long, 2) := by decide +kernel
theorem d_P_init_19 : decode b_P_init 19 = .ok (.putfield 15, 3) := by decide +kernel
theorem d_P_init_22 : decode b_P_init 22 = .ok (.return_, 1) := by decide +kernel
theorem d_P_setZero_0 : decode b_P_setZero 0 = .ok (.aload_n 0, 1) := by decide +kernel
theorem d_P_setZero_1 : decode b_P_setZero 1 = .ok (.getfield 9, 3) := by decide +kernel
theorem d_P_setZero_4 : decode b_P_setZero 4 = .ok (.lconst 0, 1) := by decide +kernel
theorem d_P_setZero_5 : decode b_P_setZero 5 = .ok (.invokestatic 18, 3) := by decide +kernel
theorem d_P_setZero_8 : decode b_P_setZero 8 = .ok (.return_, 1) := by decide +kernel
theorem d_P_at_0 : decode b_P_at 0 = .ok (.lload_n 1, 1) := by decide +kernel
theorem d_P_at_1 : decode b_P_at 1 = .ok (.ldc2_w 24, 3) := by decide +kernel
theorem d_P_at_4 : decode b_P_at 4 = .ok (.lcmp, 1) := by decide +kernel
theorem d_P_at_5 : decode b_P_at 5 = .ok (.ifCond .lt 11, 3) := by decide +kernel
theorem d_P_at_8 : decode b_P_at 8 = .ok (.lload_n 1, 1) := by decide +kernel
theorem d_P_at_9 : decode b_P_at 9 = .ok (.ldc2_w 26, 3) := by decide +kernel
theorem d_P_at_12 : decode b_P_at 12 = .ok (.lcmp, 1) := by decide +kernel
theorem d_P_at_13 : decode b_P_at 13 = .ok (.ifCond .le 7, 3) := by decide +kernel
theorem d_P_at_16 : decode b_P_at 16 = .ok (.lconst 0, 1) := by decide +kernel
theorem d_P_at_17 : decode b_P_at 17 = .ok (.goto 13, 3) := by decide +kernel
theorem d_P_at_20 : decode b_P_at 20 = .ok (.aload_n 0, 1) := by decide +kernel
theorem d_P_at_21 : decode b_P_at 21 = .ok (.getfield 9, 3) := by decide +kernel
theorem d_P_at_24 : decode b_P_at 24 = .ok (.lload_n 1, 1) := by decide +kernel
theorem d_P_at_25 : decode b_P_at 25 = .ok (.l2i, 1) := by decide +kernel
theorem d_P_at_26 : decode b_P_at 26 = .ok (.bipush 66, 2) := by decide +kernel
theorem d_P_at_28 : decode b_P_at 28 = .ok (.iadd, 1) := by decide +kernel
theorem d_P_at_29 : decode b_P_at 29 = .ok (.laload, 1) := by decide +kernel
theorem d_P_at_30 : decode b_P_at 30 = .ok (.lreturn, 1) := by decide +kernel
theorem d_P_add_0 : decode b_P_add 0 = .ok (.iload_n 1, 1) := by decide +kernel
theorem d_P_add_1 : decode b_P_add 1 = .ok (.bipush (-66), 2) := by decide +kernel
theorem d_P_add_3 : decode b_P_add 3 = .ok (.if_icmp .lt 22, 3) := by decide +kernel
theorem d_P_add_6 : decode b_P_add 6 = .ok (.iload_n 1, 1) := by decide +kernel
theorem d_P_add_7 : decode b_P_add 7 = .ok (.bipush 66, 2) := by decide +kernel
theorem d_P_add_9 : decode b_P_add 9 = .ok (.if_icmp .gt 16, 3) := by decide +kernel
theorem d_P_add_12 : decode b_P_add 12 = .ok (.aload_n 0, 1) := by decide +kernel
theorem d_P_add_13 : decode b_P_add 13 = .ok (.getfield 9, 3) := by decide +kernel
theorem d_P_add_16 : decode b_P_add 16 = .ok (.iload_n 1, 1) := by decide +kernel
theorem d_P_add_17 : decode b_P_add 17 = .ok (.bipush 66, 2) := by decide +kernel
theorem d_P_add_19 : decode b_P_add 19 = .ok (.iadd, 1) := by decide +kernel
theorem d_P_add_20 : decode b_P_add 20 = .ok (.dup2, 1) := by decide +kernel
theorem d_P_add_21 : decode b_P_add 21 = .ok (.laload, 1) := by decide +kernel
theorem d_P_add_22 : decode b_P_add 22 = .ok (.lload_n 2, 1) := by decide +kernel
theorem d_P_add_23 : decode b_P_add 23 = .ok (.ladd, 1) := by decide +kernel
theorem d_P_add_24 : decode b_P_add 24 = .ok (.lastore, 1) := by decide +kernel
theorem d_P_add_25 : decode b_P_add 25 = .ok (.return_, 1) := by decide +kernel
theorem d_P_timesD_0 : decode b_P_timesD 0 = .ok (.bipush (-66), 2) := by decide +kernel
theorem d_P_timesD_2 : decode b_P_timesD 2 = .ok (.istore_n 1, 1) := by decide +kernel
theorem d_P_timesD_3 : decode b_P_timesD 3 = .ok (.iload_n 1, 1) := by decide +kernel
theorem d_P_timesD_4 : decode b_P_timesD 4 = .ok (.bipush 66, 2) := by decide +kernel
theorem d_P_timesD_6 : decode b_P_timesD 6 = .ok (.if_icmp .gt 36, 3) := by decide +kernel
theorem d_P_timesD_9 : decode b_P_timesD 9 = .ok (.aload_n 0, 1) := by decide +kernel
theorem d_P_timesD_10 : decode b_P_timesD 10 = .ok (.getfield 15, 3) := by decide +kernel
theorem d_P_timesD_13 : decode b_P_timesD 13 = .ok (.iload_n 1, 1) := by decide +kernel
theorem d_P_timesD_14 : decode b_P_timesD 14 = .ok (.bipush 66, 2) := by decide +kernel
theorem d_P_timesD_16 : decode b_P_timesD 16 = .ok (.iadd, 1) := by decide +kernel
theorem d_P_timesD_17 : decode b_P_timesD 17 = .ok (.aload_n 0, 1) := by decide +kernel
theorem d_P_timesD_18 : decode b_P_timesD 18 = .ok (.iload_n 1, 1) := by decide +kernel
theorem d_P_timesD_19 : decode b_P_timesD 19 = .ok (.iconst 2, 1) := by decide +kernel
theorem d_P_timesD_20 : decode b_P_timesD 20 = .ok (.isub, 1) := by decide +kernel
theorem d_P_timesD_21 : decode b_P_timesD 21 = .ok (.i2l, 1) := by decide +kernel
theorem d_P_timesD_22 : decode b_P_timesD 22 = .ok (.invokevirtual 28, 3) := by decide +kernel
theorem d_P_timesD_25 : decode b_P_timesD 25 = .ok (.lneg, 1) := by decide +kernel
theorem d_P_timesD_26 : decode b_P_timesD 26 = .ok (.aload_n 0, 1) := by decide +kernel
theorem d_P_timesD_27 : decode b_P_timesD 27 = .ok (.iload_n 1, 1) := by decide +kernel
theorem d_P_timesD_28 : decode b_P_timesD 28 = .ok (.iconst 2, 1) := by decide +kernel
theorem d_P_timesD_29 : decode b_P_timesD 29 = .ok (.iadd, 1) := by decide +kernel
theorem d_P_timesD_30 : decode b_P_timesD 30 = .ok (.i2l, 1) := by decide +kernel
theorem d_P_timesD_31 : decode b_P_timesD 31 = .ok (.invokevirtual 28, 3) := by decide +kernel
theorem d_P_timesD_34 : decode b_P_timesD 34 = .ok (.lsub, 1) := by decide +kernel
theorem d_P_timesD_35 : decode b_P_timesD 35 = .ok (.lastore, 1) := by decide +kernel
theorem d_P_timesD_36 : decode b_P_timesD 36 = .ok (.iinc 1 1, 3) := by decide +kernel
theorem d_P_timesD_39 : decode b_P_timesD 39 = .ok (.goto (-36), 3) := by decide +kernel
theorem d_P_timesD_42 : decode b_P_timesD 42 = .ok (.aload_n 0, 1) := by decide +kernel
theorem d_P_timesD_43 : decode b_P_timesD 43 = .ok (.getfield 15, 3) := by decide +kernel
theorem d_P_timesD_46 : decode b_P_timesD 46 = .ok (.astore_n 1, 1) := by decide +kernel
theorem d_P_timesD_47 : decode b_P_timesD 47 = .ok (.aload_n 0, 1) := by decide +kernel
theorem d_P_timesD_48 : decode b_P_timesD 48 = .ok (.aload_n 0, 1) := by decide +kernel
theorem d_P_timesD_49 : decode b_P_timesD 49 = .ok (.getfield 9, 3) := by decide +kernel
theorem d_P_timesD_52 : decode b_P_timesD 52 = .ok (.putfield 15, 3) := by decide +kernel
theorem d_P_timesD_55 : decode b_P_timesD 55 = .ok (.aload_n 0, 1) := by decide +kernel
theorem d_P_timesD_56 : decode b_P_timesD 56 = .ok (.aload_n 1, 1) := by decide +kernel
theorem d_P_timesD_57 : decode b_P_timesD 57 = .ok (.putfield 9, 3) := by decide +kernel
theorem d_P_timesD_60 : decode b_P_timesD 60 = .ok (.return_, 1) := by decide +kernel
theorem d_P_isZero_0 : decode b_P_isZero 0 = .ok (.aload_n 0, 1) := by decide +kernel
theorem d_P_isZero_1 : decode b_P_isZero 1 = .ok (.getfield 9, 3) := by decide +kernel
theorem d_P_isZero_4 : decode b_P_isZero 4 = .ok (.aload_n 0, 1) := by decide +kernel
theorem d_P_isZero_5 : decode b_P_isZero 5 = .ok (.invokevirtual 32, 3) := by decide +kernel
theorem d_P_isZero_8 : decode b_P_isZero 8 = .ok (.bipush 66, 2) := by decide +kernel
theorem d_P_isZero_10 : decode b_P_isZero 10 = .ok (.iadd, 1) := by decide +kernel
theorem d_P_isZero_11 : decode b_P_isZero 11 = .ok (.laload, 1) := by decide +kernel
theorem d_P_isZero_12 : decode b_P_isZero 12 = .ok (.lconst 0, 1) := by decide +kernel
theorem d_P_isZero_13 : decode b_P_isZero 13 = .ok (.lcmp, 1) := by decide +kernel
theorem d_P_isZero_14 : decode b_P_isZero 14 = .ok (.ifCond .ne 7, 3) := by decide +kernel
theorem d_P_isZero_17 : decode b_P_isZero 17 = .ok (.iconst 1, 1) := by decide +kernel
theorem d_P_isZero_18 : decode b_P_isZero 18 = .ok (.goto 4, 3) := by decide +kernel
theorem d_P_isZero_21 : decode b_P_isZero 21 = .ok (.iconst 0, 1) := by decide +kernel
theorem d_P_isZero_22 : decode b_P_isZero 22 = .ok (.ireturn, 1) := by decide +kernel
theorem d_P_least_0 : decode b_P_least 0 = .ok (.bipush (-66), 2) := by decide +kernel
theorem d_P_least_2 : decode b_P_least 2 = .ok (.istore_n 1, 1) := by decide +kernel
theorem d_P_least_3 : decode b_P_least 3 = .ok (.iload_n 1, 1) := by decide +kernel
theorem d_P_least_4 : decode b_P_least 4 = .ok (.bipush 66, 2) := by decide +kernel
theorem d_P_least_6 : decode b_P_least 6 = .ok (.if_icmp .gt 25, 3) := by decide +kernel
theorem d_P_least_9 : decode b_P_least 9 = .ok (.aload_n 0, 1) := by decide +kernel
theorem d_P_least_10 : decode b_P_least 10 = .ok (.getfield 9, 3) := by decide +kernel
theorem d_P_least_13 : decode b_P_least 13 = .ok (.iload_n 1, 1) := by decide +kernel
theorem d_P_least_14 : decode b_P_least 14 = .ok (.bipush 66, 2) := by decide +kernel
theorem d_P_least_16 : decode b_P_least 16 = .ok (.iadd, 1) := by decide +kernel
theorem d_P_least_17 : decode b_P_least 17 = .ok (.laload, 1) := by decide +kernel
theorem d_P_least_18 : decode b_P_least 18 = .ok (.lconst 0, 1) := by decide +kernel
theorem d_P_least_19 : decode b_P_least 19 = .ok (.lcmp, 1) := by decide +kernel
theorem d_P_least_20 : decode b_P_least 20 = .ok (.ifCond .eq 5, 3) := by decide +kernel
theorem d_P_least_23 : decode b_P_least 23 = .ok (.iload_n 1, 1) := by decide +kernel
theorem d_P_least_24 : decode b_P_least 24 = .ok (.ireturn, 1) := by decide +kernel
theorem d_P_least_25 : decode b_P_least 25 = .ok (.iinc 1 1, 3) := by decide +kernel
theorem d_P_least_28 : decode b_P_least 28 = .ok (.goto (-25), 3) := by decide +kernel
theorem d_P_least_31 : decode b_P_least 31 = .ok (.iconst 0, 1) := by decide +kernel
theorem d_P_least_32 : decode b_P_least 32 = .ok (.ireturn, 1) := by decide +kernel
theorem d_P_greatest_0 : decode b_P_greatest 0 = .ok (.bipush 66, 2) := by decide +kernel
theorem d_P_greatest_2 : decode b_P_greatest 2 = .ok (.istore_n 1, 1) := by decide +kernel
theorem d_P_greatest_3 : decode b_P_greatest 3 = .ok (.iload_n 1, 1) := by decide +kernel
theorem d_P_greatest_4 : decode b_P_greatest 4 = .ok (.bipush (-66), 2) := by decide +kernel
theorem d_P_greatest_6 : decode b_P_greatest 6 = .ok (.if_icmp .lt 25, 3) := by decide +kernel
theorem d_P_greatest_9 : decode b_P_greatest 9 = .ok (.aload_n 0, 1) := by decide +kernel
theorem d_P_greatest_10 : decode b_P_greatest 10 = .ok (.getfield 9, 3) := by decide +kernel
theorem d_P_greatest_13 : decode b_P_greatest 13 = .ok (.iload_n 1, 1) := by decide +kernel
theorem d_P_greatest_14 : decode b_P_greatest 14 = .ok (.bipush 66, 2) := by decide +kernel
theorem d_P_greatest_16 : decode b_P_greatest 16 = .ok (.iadd, 1) := by decide +kernel
theorem d_P_greatest_17 : decode b_P_greatest 17 = .ok (.laload, 1) := by decide +kernel
theorem d_P_greatest_18 : decode b_P_greatest 18 = .ok (.lconst 0, 1) := by decide +kernel
theorem d_P_greatest_19 : decode b_P_greatest 19 = .ok (.lcmp, 1) := by decide +kernel
theorem d_P_greatest_20 : decode b_P_greatest 20 = .ok (.ifCond .eq 5, 3) := by decide +kernel
theorem d_P_greatest_23 : decode b_P_greatest 23 = .ok (.iload_n 1, 1) := by decide +kernel
theorem d_P_greatest_24 : decode b_P_greatest 24 = .ok (.ireturn, 1) := by decide +kernel
theorem d_P_greatest_25 : decode b_P_greatest 25 = .ok (.iinc 1 (-1), 3) := by decide +kernel
theorem d_P_greatest_28 : decode b_P_greatest 28 = .ok (.goto (-25), 3) := by decide +kernel
theorem d_P_greatest_31 : decode b_P_greatest 31 = .ok (.iconst 0, 1) := by decide +kernel
theorem d_P_greatest_32 : decode b_P_greatest 32 = .ok (.ireturn, 1) := by decide +kernel
theorem d_W_init_0 : decode b_W_init 0 = .ok (.aload_n 0, 1) := by decide +kernel
theorem d_W_init_1 : decode b_W_init 1 = .ok (.invokespecial 3, 3) := by decide +kernel
theorem d_W_init_4 : decode b_W_init 4 = .ok (.aload_n 0, 1) := by decide +kernel
theorem d_W_init_5 : decode b_W_init 5 = .ok (.bipush 40, 2) := by decide +kernel
theorem d_W_init_7 : decode b_W_init 7 = .ok (.newarray .int, 2) := by decide +kernel
theorem d_W_init_9 : decode b_W_init 9 = .ok (.putfield 9, 3) := by decide +kernel
theorem d_W_init_12 : decode b_W_init 12 = .ok (.aload_n 0, 1) := by decide +kernel
theorem d_W_init_13 : decode b_W_init 13 = .ok (.bipush 100, 2) := by decide +kernel
theorem d_W_init_15 : decode b_W_init 15 = .ok (.newarray .int, 2) := by decide +kernel
theorem d_W_init_17 : decode b_W_init 17 = .ok (.putfield 15, 3) := by decide +kernel
theorem d_W_init_20 : decode b_W_init 20 = .ok (.return_, 1) := by decide +kernel
theorem d_W_followLabels_0 : decode b_W_followLabels 0 = .ok (.aload_n 0, 1) := by decide +kernel
theorem d_W_followLabels_1 : decode b_W_followLabels 1 = .ok (.getfield 15, 3) := by decide +kernel
theorem d_W_followLabels_4 : decode b_W_followLabels 4 = .ok (.iconst (-1), 1) := by decide +kernel
theorem d_W_followLabels_5 : decode b_W_followLabels 5 = .ok (.invokestatic 18, 3) := by decide +kernel
theorem d_W_followLabels_8 : decode b_W_followLabels 8 = .ok (.iconst 0, 1) := by decide +kernel
theorem d_W_followLabels_9 : decode b_W_followLabels 9 = .ok (.istore_n 3, 1) := by decide +kernel
theorem d_W_followLabels_10 : decode b_W_followLabels 10 = .ok (.iload_n 3, 1) := by decide +kernel
theorem d_W_followLabels_11 : decode b_W_followLabels 11 = .ok (.iload_n 2, 1) := by decide +kernel
theorem d_W_followLabels_12 : decode b_W_followLabels 12 = .ok (.if_icmp .ge 52, 3) := by decide +kernel
theorem d_W_followLabels_15 : decode b_W_followLabels 15 = .ok (.aload_n 0, 1) := by decide +kernel
theorem d_W_followLabels_16 : decode b_W_followLabels 16 = .ok (.getfield 15, 3) := by decide +kernel
theorem d_W_followLabels_19 : decode b_W_followLabels 19 = .ok (.aload_n 1, 1) := by decide +kernel
theorem d_W_followLabels_20 : decode b_W_followLabels 20 = .ok (.iload_n 3, 1) := by decide +kernel
theorem d_W_followLabels_21 : decode b_W_followLabels 21 = .ok (.iaload, 1) := by decide +kernel
theorem d_W_followLabels_22 : decode b_W_followLabels 22 = .ok (.iaload, 1) := by decide +kernel
theorem d_W_followLabels_23 : decode b_W_followLabels 23 = .ok (.istore 4, 2) := by decide +kernel
theorem d_W_followLabels_25 : decode b_W_followLabels 25 = .ok (.iload 4, 2) := by decide +kernel
theorem d_W_followLabels_27 : decode b_W_followLabels 27 = .ok (.ifCond .ge 15, 3) := by decide +kernel
theorem d_W_followLabels_30 : decode b_W_followLabels 30 = .ok (.aload_n 0, 1) := by decide +kernel
theorem d_W_followLabels_31 : decode b_W_followLabels 31 = .ok (.getfield 15, 3) := by decide +kernel
theorem d_W_followLabels_34 : decode b_W_followLabels 34 = .ok (.aload_n 1, 1) := by decide +kernel
theorem d_W_followLabels_35 : decode b_W_followLabels 35 = .ok (.iload_n 3, 1) := by decide +kernel
theorem d_W_followLabels_36 : decode b_W_followLabels 36 = .ok (.iaload, 1) := by decide +kernel
theorem d_W_followLabels_37 : decode b_W_followLabels 37 = .ok (.iload_n 3, 1) := by decide +kernel
theorem d_W_followLabels_38 : decode b_W_followLabels 38 = .ok (.iastore, 1) := by decide +kernel
theorem d_W_followLabels_39 : decode b_W_followLabels 39 = .ok (.goto 19, 3) := by decide +kernel
theorem d_W_followLabels_42 : decode b_W_followLabels 42 = .ok (.aload_n 0, 1) := by decide +kernel
theorem d_W_followLabels_43 : decode b_W_followLabels 43 = .ok (.getfield 9, 3) := by decide +kernel
theorem d_W_followLabels_46 : decode b_W_followLabels 46 = .ok (.iload 4, 2) := by decide +kernel
theorem d_W_followLabels_48 : decode b_W_followLabels 48 = .ok (.iload_n 3, 1) := by decide +kernel
theorem d_W_followLabels_49 : decode b_W_followLabels 49 = .ok (.iastore, 1) := by decide +kernel
theorem d_W_followLabels_50 : decode b_W_followLabels 50 = .ok (.aload_n 0, 1) := by decide +kernel
theorem d_W_followLabels_51 : decode b_W_followLabels 51 = .ok (.getfield 9, 3) := by decide +kernel
theorem d_W_followLabels_54 : decode b_W_followLabels 54 = .ok (.iload_n 3, 1) := by decide +kernel
theorem d_W_followLabels_55 : decode b_W_followLabels 55 = .ok (.iload 4, 2) := by decide +kernel
theorem d_W_followLabels_57 : decode b_W_followLabels 57 = .ok (.iastore, 1) := by decide +kernel
theorem d_W_followLabels_58 : decode b_W_followLabels 58 = .ok (.iinc 3 1, 3) := by decide +kernel
theorem d_W_followLabels_61 : decode b_W_followLabels 61 = .ok (.goto (-51), 3) := by decide +kernel
theorem d_W_followLabels_64 : decode b_W_followLabels 64 = .ok (.return_, 1) := by decide +kernel
theorem d_W_smooth_0 : decode b_W_smooth 0 = .ok (.iconst 4, 1) := by decide +kernel
theorem d_W_smooth_1 : decode b_W_smooth 1 = .ok (.iload_n 1, 1) := by decide +kernel
theorem d_W_smooth_2 : decode b_W_smooth 2 = .ok (.imul, 1) := by decide +kernel
theorem d_W_smooth_3 : decode b_W_smooth 3 = .ok (.istore_n 3, 1) := by decide +kernel
theorem d_W_smooth_4 : decode b_W_smooth 4 = .ok (.iload_n 2, 1) := by decide +kernel
theorem d_W_smooth_5 : decode b_W_smooth 5 = .ok (.ifCond .eq 23, 3) := by decide +kernel
theorem d_W_smooth_8 : decode b_W_smooth 8 = .ok (.aload_n 0, 1) := by decide +kernel
theorem d_W_smooth_9 : decode b_W_smooth 9 = .ok (.iload_n 3, 1) := by decide +kernel
theorem d_W_smooth_10 : decode b_W_smooth 10 = .ok (.iload_n 3, 1) := by decide +kernel
theorem d_W_smooth_11 : decode b_W_smooth 11 = .ok (.iconst 1, 1) := by decide +kernel
theorem d_W_smooth_12 : decode b_W_smooth 12 = .ok (.iadd, 1) := by decide +kernel
theorem d_W_smooth_13 : decode b_W_smooth 13 = .ok (.invokevirtual 24, 3) := by decide +kernel
theorem d_W_smooth_16 : decode b_W_smooth 16 = .ok (.aload_n 0, 1) := by decide +kernel
theorem d_W_smooth_17 : decode b_W_smooth 17 = .ok (.iload_n 3, 1) := by decide +kernel
theorem d_W_smooth_18 : decode b_W_smooth 18 = .ok (.iconst 2, 1) := by decide +kernel
theorem d_W_smooth_19 : decode b_W_smooth 19 = .ok (.iadd, 1) := by decide +kernel
theorem d_W_smooth_20 : decode b_W_smooth 20 = .ok (.iload_n 3, 1) := by decide +kernel
theorem d_W_smooth_21 : decode b_W_smooth 21 = .ok (.iconst 3, 1) := by decide +kernel
theorem d_W_smooth_22 : decode b_W_smooth 22 = .ok (.iadd, 1) := by decide +kernel
theorem d_W_smooth_23 : decode b_W_smooth 23 = .ok (.invokevirtual 24, 3) := by decide +kernel
theorem d_W_smooth_26 : decode b_W_smooth 26 = .ok (.iadd, 1) := by decide +kernel
theorem d_W_smooth_27 : decode b_W_smooth 27 = .ok (.ireturn, 1) := by decide +kernel
theorem d_W_smooth_28 : decode b_W_smooth 28 = .ok (.aload_n 0, 1) := by decide +kernel
theorem d_W_smooth_29 : decode b_W_smooth 29 = .ok (.iload_n 3, 1) := by decide +kernel
theorem d_W_smooth_30 : decode b_W_smooth 30 = .ok (.iconst 1, 1) := by decide +kernel
theorem d_W_smooth_31 : decode b_W_smooth 31 = .ok (.iadd, 1) := by decide +kernel
theorem d_W_smooth_32 : decode b_W_smooth 32 = .ok (.iload_n 3, 1) := by decide +kernel
theorem d_W_smooth_33 : decode b_W_smooth 33 = .ok (.iconst 2, 1) := by decide +kernel
theorem d_W_smooth_34 : decode b_W_smooth 34 = .ok (.iadd, 1) := by decide +kernel
theorem d_W_smooth_35 : decode b_W_smooth 35 = .ok (.invokevirtual 24, 3) := by decide +kernel
theorem d_W_smooth_38 : decode b_W_smooth 38 = .ok (.aload_n 0, 1) := by decide +kernel
theorem d_W_smooth_39 : decode b_W_smooth 39 = .ok (.iload_n 3, 1) := by decide +kernel
theorem d_W_smooth_40 : decode b_W_smooth 40 = .ok (.iconst 3, 1) := by decide +kernel
theorem d_W_smooth_41 : decode b_W_smooth 41 = .ok (.iadd, 1) := by decide +kernel
theorem d_W_smooth_42 : decode b_W_smooth 42 = .ok (.iload_n 3, 1) := by decide +kernel
theorem d_W_smooth_43 : decode b_W_smooth 43 = .ok (.invokevirtual 24, 3) := by decide +kernel
theorem d_W_smooth_46 : decode b_W_smooth 46 = .ok (.iadd, 1) := by decide +kernel
theorem d_W_smooth_47 : decode b_W_smooth 47 = .ok (.ireturn, 1) := by decide +kernel
theorem d_W_undo_0 : decode b_W_undo 0 = .ok (.iconst 4, 1) := by decide +kernel
theorem d_W_undo_1 : decode b_W_undo 1 = .ok (.iload_n 1, 1) := by decide +kernel
theorem d_W_undo_2 : decode b_W_undo 2 = .ok (.imul, 1) := by decide +kernel
theorem d_W_undo_3 : decode b_W_undo 3 = .ok (.istore_n 3, 1) := by decide +kernel
theorem d_W_undo_4 : decode b_W_undo 4 = .ok (.iload_n 2, 1) := by decide +kernel
theorem d_W_undo_5 : decode b_W_undo 5 = .ok (.ifCond .eq 24, 3) := by decide +kernel
theorem d_W_undo_8 : decode b_W_undo 8 = .ok (.aload_n 0, 1) := by decide +kernel
theorem d_W_undo_9 : decode b_W_undo 9 = .ok (.iload_n 3, 1) := by decide +kernel
theorem d_W_undo_10 : decode b_W_undo 10 = .ok (.iconst 2, 1) := by decide +kernel
theorem d_W_undo_11 : decode b_W_undo 11 = .ok (.iadd, 1) := by decide +kernel
theorem d_W_undo_12 : decode b_W_undo 12 = .ok (.iload_n 3, 1) := by decide +kernel
theorem d_W_undo_13 : decode b_W_undo 13 = .ok (.iconst 3, 1) := by decide +kernel
theorem d_W_undo_14 : decode b_W_undo 14 = .ok (.iadd, 1) := by decide +kernel
theorem d_W_undo_15 : decode b_W_undo 15 = .ok (.invokevirtual 28, 3) := by decide +kernel
theorem d_W_undo_18 : decode b_W_undo 18 = .ok (.aload_n 0, 1) := by decide +kernel
theorem d_W_undo_19 : decode b_W_undo 19 = .ok (.iload_n 3, 1) := by decide +kernel
theorem d_W_undo_20 : decode b_W_undo 20 = .ok (.iload_n 3, 1) := by decide +kernel
theorem d_W_undo_21 : decode b_W_undo 21 = .ok (.iconst 1, 1) := by decide +kernel
theorem d_W_undo_22 : decode b_W_undo 22 = .ok (.iadd, 1) := by decide +kernel
theorem d_W_undo_23 : decode b_W_undo 23 = .ok (.invokevirtual 28, 3) := by decide +kernel
theorem d_W_undo_26 : decode b_W_undo 26 = .ok (.goto 21, 3) := by decide +kernel
theorem d_W_undo_29 : decode b_W_undo 29 = .ok (.aload_n 0, 1) := by decide +kernel
theorem d_W_undo_30 : decode b_W_undo 30 = .ok (.iload_n 3, 1) := by decide +kernel
end
section
theorem d_W_undo_31 : decode b_W_undo 31 = .ok (.iconst 3, 1) := by decide +kernel
theorem d_W_undo_32 : decode b_W_undo 32 = .ok (.iadd, 1) := by decide +kernel
theorem d_W_undo_33 : decode b_W_undo 33 = .ok (.iload_n 3, 1) := by decide +kernel
theorem d_W_undo_34 : decode b_W_undo 34 = .ok (.invokevirtual 28, 3) := by decide +kernel
theorem d_W_undo_37 : decode b_W_undo 37 = .ok (.aload_n 0, 1) := by decide +kernel
theorem d_W_undo_38 : decode b_W_undo 38 = .ok (.iload_n 3, 1) := by decide +kernel
theorem d_W_undo_39 : decode b_W_undo 39 = .ok (.iconst 1, 1) := by decide +kernel
theorem d_W_undo_40 : decode b_W_undo 40 = .ok (.iadd, 1) := by decide +kernel
theorem d_W_undo_41 : decode b_W_undo 41 = .ok (.iload_n 3, 1) := by decide +kernel
theorem d_W_undo_42 : decode b_W_undo 42 = .ok (.iconst 2, 1) := by decide +kernel
theorem d_W_undo_43 : decode b_W_undo 43 = .ok (.iadd, 1) := by decide +kernel
theorem d_W_undo_44 : decode b_W_undo 44 = .ok (.invokevirtual 28, 3) := by decide +kernel
theorem d_W_undo_47 : decode b_W_undo 47 = .ok (.return_, 1) := by decide +kernel
theorem d_W_join_0 : decode b_W_join 0 = .ok (.aload_n 0, 1) := by decide +kernel
theorem d_W_join_1 : decode b_W_join 1 = .ok (.getfield 9, 3) := by decide +kernel
theorem d_W_join_4 : decode b_W_join 4 = .ok (.iload_n 1, 1) := by decide +kernel
theorem d_W_join_5 : decode b_W_join 5 = .ok (.iaload, 1) := by decide +kernel
theorem d_W_join_6 : decode b_W_join 6 = .ok (.iload_n 2, 1) := by decide +kernel
theorem d_W_join_7 : decode b_W_join 7 = .ok (.if_icmp .ne 5, 3) := by decide +kernel
theorem d_W_join_10 : decode b_W_join 10 = .ok (.iconst 1, 1) := by decide +kernel
theorem d_W_join_11 : decode b_W_join 11 = .ok (.ireturn, 1) := by decide +kernel
theorem d_W_join_12 : decode b_W_join 12 = .ok (.aload_n 0, 1) := by decide +kernel
theorem d_W_join_13 : decode b_W_join 13 = .ok (.getfield 9, 3) := by decide +kernel
theorem d_W_join_16 : decode b_W_join 16 = .ok (.iload_n 1, 1) := by decide +kernel
theorem d_W_join_17 : decode b_W_join 17 = .ok (.iaload, 1) := by decide +kernel
theorem d_W_join_18 : decode b_W_join 18 = .ok (.istore_n 3, 1) := by decide +kernel
theorem d_W_join_19 : decode b_W_join 19 = .ok (.aload_n 0, 1) := by decide +kernel
theorem d_W_join_20 : decode b_W_join 20 = .ok (.getfield 9, 3) := by decide +kernel
theorem d_W_join_23 : decode b_W_join 23 = .ok (.iload_n 2, 1) := by decide +kernel
theorem d_W_join_24 : decode b_W_join 24 = .ok (.iaload, 1) := by decide +kernel
theorem d_W_join_25 : decode b_W_join 25 = .ok (.istore 4, 2) := by decide +kernel
theorem d_W_join_27 : decode b_W_join 27 = .ok (.aload_n 0, 1) := by decide +kernel
theorem d_W_join_28 : decode b_W_join 28 = .ok (.getfield 9, 3) := by decide +kernel
theorem d_W_join_31 : decode b_W_join 31 = .ok (.iload_n 3, 1) := by decide +kernel
theorem d_W_join_32 : decode b_W_join 32 = .ok (.iload 4, 2) := by decide +kernel
theorem d_W_join_34 : decode b_W_join 34 = .ok (.iastore, 1) := by decide +kernel
theorem d_W_join_35 : decode b_W_join 35 = .ok (.aload_n 0, 1) := by decide +kernel
theorem d_W_join_36 : decode b_W_join 36 = .ok (.getfield 9, 3) := by decide +kernel
theorem d_W_join_39 : decode b_W_join 39 = .ok (.iload 4, 2) := by decide +kernel
theorem d_W_join_41 : decode b_W_join 41 = .ok (.iload_n 3, 1) := by decide +kernel
theorem d_W_join_42 : decode b_W_join 42 = .ok (.iastore, 1) := by decide +kernel
theorem d_W_join_43 : decode b_W_join 43 = .ok (.iconst 0, 1) := by decide +kernel
theorem d_W_join_44 : decode b_W_join 44 = .ok (.ireturn, 1) := by decide +kernel
theorem d_W_part_0 : decode b_W_part 0 = .ok (.aload_n 0, 1) := by decide +kernel
theorem d_W_part_1 : decode b_W_part 1 = .ok (.getfield 9, 3) := by decide +kernel
theorem d_W_part_4 : decode b_W_part 4 = .ok (.aload_n 0, 1) := by decide +kernel
theorem d_W_part_5 : decode b_W_part 5 = .ok (.getfield 9, 3) := by decide +kernel
theorem d_W_part_8 : decode b_W_part 8 = .ok (.iload_n 1, 1) := by decide +kernel
theorem d_W_part_9 : decode b_W_part 9 = .ok (.iaload, 1) := by decide +kernel
theorem d_W_part_10 : decode b_W_part 10 = .ok (.iload_n 1, 1) := by decide +kernel
theorem d_W_part_11 : decode b_W_part 11 = .ok (.iastore, 1) := by decide +kernel
theorem d_W_part_12 : decode b_W_part 12 = .ok (.aload_n 0, 1) := by decide +kernel
theorem d_W_part_13 : decode b_W_part 13 = .ok (.getfield 9, 3) := by decide +kernel
theorem d_W_part_16 : decode b_W_part 16 = .ok (.aload_n 0, 1) := by decide +kernel
theorem d_W_part_17 : decode b_W_part 17 = .ok (.getfield 9, 3) := by decide +kernel
theorem d_W_part_20 : decode b_W_part 20 = .ok (.iload_n 2, 1) := by decide +kernel
theorem d_W_part_21 : decode b_W_part 21 = .ok (.iaload, 1) := by decide +kernel
theorem d_W_part_22 : decode b_W_part 22 = .ok (.iload_n 2, 1) := by decide +kernel
theorem d_W_part_23 : decode b_W_part 23 = .ok (.iastore, 1) := by decide +kernel
theorem d_W_part_24 : decode b_W_part 24 = .ok (.return_, 1) := by decide +kernel
end
section
/-! java.util.Arrays.fill, of ints and of longs -/
theorem arrV_cong {cI : ClassId} {N : Nat} {f g : Nat → Value} (h : ∀ j, j < N → f j = g j) : arrV cI N f = arrV cI N g := by
  have e : (fun j : Fin N => f j.val) = (fun j : Fin N => g j.val) := funext fun j => h j.val j.isLt
  unfold arrV
  rw [e]
theorem vp_one {D : va_G} {q : Nat} {x y : va_E} {H : Heap} (h : va_P D classes [(q, x)] H) (hxy : va_at D classes (q, x) H → va_at D classes (q, y) H) : va_P D classes [(q, y)] H := by
  intro k z hz
  match k, hz with
  | 0, hz => cases hz; exact hxy (h 0 _ rfl)
  | k + 1, hz => simp at hz
theorem vd_one {A : Nat → Prop} {q : Nat} {x y : va_E} (h : va_D A [(q, x)]) : va_D A [(q, y)] := by
  refine ⟨fun i j p r hi hj _ => ?_, fun k z hz => ?_⟩
  · have h1 := (List.getElem?_eq_some_iff.mp hi).1
    have h2 := (List.getElem?_eq_some_iff.mp hj).1
    simp at h1 h2
    omega
  · match k, hz with
    | 0, hz => cases hz; exact h.2 0 (q, x) rfl
    | k + 1, hz => simp at hz
theorem va_fillI {D : va_G} {q n : Nat} {kc : ClassId} {f g : Nat → Int32} {H : Heap} (h : va_P D classes [(q, .inl (kc, n, .inl f))] H) (e : ∀ j, j < n → f j = g j) : va_P D classes [(q, .inl (kc, n, .inl g))] H := by
  refine vp_one h (fun h => ?_)
  have h : H[q]? = some (arrV kc n (fun j => .int (f j))) := h
  show H[q]? = some (arrV kc n (fun j => .int (g j)))
  rw [h, arrV_cong (fun j hj => by rw [e j hj])]
theorem va_fillJ {D : va_G} {q n : Nat} {kc : ClassId} {f g : Nat → Int64} {H : Heap} (h : va_P D classes [(q, .inl (kc, n, .inr (.inl f)))] H) (e : ∀ j, j < n → f j = g j) : va_P D classes [(q, .inl (kc, n, .inr (.inl g)))] H := by
  refine vp_one h (fun h => ?_)
  have h : H[q]? = some (arrV kc n (fun j => .long (f j))) := h
  show H[q]? = some (arrV kc n (fun j => .long (g j)))
  rw [h, arrV_cong (fun j hj => by rw [e j hj])]
def rm_fill : Room := { frames := 0, cells := 0, slots := 0, locals := 0 }
set_option maxHeartbeats 4000000 in
set_option maxRecDepth 100000 in
theorem k_fillI {p : Program} {l : Launch} {e : Env} {s : State} {m : MethodId} {args : Array Value} {below : List Frame} {meth : Method} {c : Code} {D : va_G} {A : Nat → Prop} {q n : Nat} {kc : ClassId} {v : Int32} (hn : n < 2 ^ 31) (C : cx D [(kc, .int)] "java/util/Arrays" b_fillI 4 none A p s m args meth c) :
    ∀ (j i : Nat) (f : Nat → Int32), i + j = n → (∀ t, t < i → f t = v) → ∀ (H : Heap) (locs : List Loc) (ls : Array Slot), va_P D classes [(q, .inl (kc, n, .inl f))] H → va_D A [(q, .inl (kc, n, .inl f))] → va_S A s.heap H locs → lv_has ls 4 [(2, .int (nI i)), (3, .int (nI n)), (0, .ref q), (1, .int v)] → W p l e rm_fill s m args below meth c H locs 0 0 (MQ below (va_Qv (fun (_ : Unit) => True) (poW D [(kc, .int)] [(q, .inl (kc, n, .inl (fun _ => v)))] A) A) args s 0 0 A) (F0 m 5 ls []) := by
  obtain ⟨hx, hb, hr, hml, hown, ht, hlk, hA, hK⟩ := id C
  intro j
  induction j with
  | zero =>
    intro i f hi hf H locs ls hP hD hS hl
    obtain rfl : i = n := by omega
    refine lv_iload_n hx hb d_fillI_5 rfl (lv_at hl 0 rfl) ?_
    refine lv_iload_n hx hb d_fillI_6 rfl (lv_at hl 1 rfl) ?_
    refine lv_icmp_ge (tgt := 20) hx hb d_fillI_7 (by decide) (fun c1 => ?_) (fun c1 => ?_)
    · have hP := va_fillI (g := fun _ => v) hP hf
      have hD := vd_one (y := .inl (kc, i, .inl (fun _ => v))) hD
      exact W.vret hx hb hr (fun t ht hW => ⟨⟨(), rfl, trivial, by rw [ht]; exact hP, va_K.moved hW.alike hK, hD⟩, hS.F ht⟩) hS.2.2 d_fillI_20 hlk
    · exact absurd (nI_le (Nat.le_refl _) hn) c1
  | succ j ih =>
    intro i f hi hf H locs ls hP hD hS hl
    refine lv_iload_n hx hb d_fillI_5 rfl (lv_at hl 0 rfl) ?_
    refine lv_iload_n hx hb d_fillI_6 rfl (lv_at hl 1 rfl) ?_
    refine lv_icmp_ge (tgt := 20) hx hb d_fillI_7 (by decide) (fun c1 => ?_) (fun c1 => ?_)
    · exact absurd c1 (nI_ge (by omega) hn)
    · refine lv_aload_n hx hb d_fillI_10 rfl (lv_at hl 2 rfl) ?_
      refine lv_iload_n hx hb d_fillI_11 rfl (lv_at hl 0 rfl) ?_
      refine lv_iload_n hx hb d_fillI_12 rfl (lv_at hl 3 rfl) ?_
      refine va_iast hx hb hK hP hD hS 0 0 rfl rfl (vp_in_nI (by omega) hn) d_fillI_13 (fun H locs hP hD hS => ?_)
      rw [nI_clamp (by omega)] at hP hD
      have hP : va_P D classes [(q, .inl (kc, n, .inl (upd f i v)))] H := hP
      have hD : va_D A [(q, .inl (kc, n, .inl (upd f i v)))] := hD
      refine lv_iinc (v := nI (i + 1)) (lv' := [(2, .int (nI (i + 1))), (3, .int (nI n)), (0, .ref q), (1, .int v)]) hx hb d_fillI_14 hl (k := 0) rfl (by rw [nI_succ]; rfl) (by decide) rfl (fun ls hl => ?_)
      refine lv_goto (tgt := 5) hx hb d_fillI_17 (by decide) ?_
      exact ih (i + 1) (upd f i v) (by omega) (fun t h => by
        by_cases q : t = i
        · rw [q]; exact pk_us
        · rw [pk_un q]; exact hf t (by omega)) H locs ls hP hD hS hl
set_option maxRecDepth 20000 in
theorem c_fillI (l : Launch) (D : va_G) (q : Nat) (kc : ClassId) (n : Nat) (sz : Nat) (f : Nat → Int32) (v : Int32) (hn : n < 2 ^ 31) : Met l y_fillI (Cond.code y_fillI b_fillI 4 none :: lw_g) rm_fill (va_Pc [.ref q, .int v] (pcW D [(kc, .int)] [(q, .inl (kc, n, .inl f))] sz)) (va_Qv (fun (_ : Unit) => True) (poW D [(kc, .int)] [(q, .inl (kc, n, .inl (fun _ => v)))] (va_A [(q, .inl (kc, n, .inl f))] sz)) (va_A [(q, .inl (kc, n, .inl f))] sz)) 0 0 (va_A [(q, .inl (kc, n, .inl f))] sz) := by
  refine Met.ofW (cc := b_fillI) (maxL := 4) (ret := none) (by decide) rfl ?_
  intro p e s m args below meth c s₁ B hml hv
  obtain ⟨rfl, hsz, hP, hK, hD0⟩ := hv
  have hts := atoms_spec (ws := Cond.code y_fillI b_fillI 4 none :: lw_g) B.pre
  subst hsz
  have hD := hD0.self (sz := s.heap.size)
  have hl := lv_entry ([.ref q, .int v]) (n := 4) (Nat.le_of_ble_eq_true rfl)
  rw [lg_entry_eq]
  generalize (lg_sl ([.ref q, .int v]) ++ List.replicate (4 - (lg_sl ([.ref q, .int v])).length) Slot.unset).toArray = ls at hl ⊢
  have hl : lv_has ls 4 [(0, .ref q), (1, .int v)] := hl
  have C : cx D [(kc, .int)] "java/util/Arrays" b_fillI 4 none (va_A [(q, .inl (kc, n, .inl f))] s.heap.size) p s m [Value.ref q, Value.int v].toArray meth c := ⟨B.exec, B.bytes, B.returns, hml, findClass_of_methodNamed B.named, fun w hw => hts w (List.mem_cons_of_mem _ hw), B.notSynchronized, fun q h => Or.inr h, hK⟩
  obtain ⟨hx, hb, hr, hml, hown, ht, hlk, hA, hK⟩ := id C
  refine lv_iconst (v := 0) hx hb d_fillI_0 (by decide) ?_
  refine lv_istore_n (lv' := [(2, .int 0), (0, .ref q), (1, .int v)]) hx hb d_fillI_1 rfl hl (by decide) rfl (fun ls hl => ?_)
  refine lv_aload_n hx hb d_fillI_2 rfl (lv_at hl 1 rfl) ?_
  refine va_alen (v := nI n) hx hb hK hP 0 0 rfl rfl rfl d_fillI_3 ?_
  refine lv_istore_n (lv' := [(3, .int (nI n)), (2, .int 0), (0, .ref q), (1, .int v)]) hx hb d_fillI_4 rfl hl (by decide) rfl (fun ls hl => ?_)
  exact k_fillI hn C n 0 f (by omega) (fun t h => absurd h (Nat.not_lt_zero t)) _ _ ls hP hD va_S.rf (lv_sub hl [1, 0, 2, 3] rfl)
set_option maxHeartbeats 4000000 in
set_option maxRecDepth 100000 in
theorem k_fillJ {p : Program} {l : Launch} {e : Env} {s : State} {m : MethodId} {args : Array Value} {below : List Frame} {meth : Method} {c : Code} {D : va_G} {A : Nat → Prop} {q n : Nat} {kc : ClassId} {v : Int64} (hn : n < 2 ^ 31) (C : cx D [(kc, .long)] "java/util/Arrays" b_fillJ 5 none A p s m args meth c) :
    ∀ (j i : Nat) (f : Nat → Int64), i + j = n → (∀ t, t < i → f t = v) → ∀ (H : Heap) (locs : List Loc) (ls : Array Slot), va_P D classes [(q, .inl (kc, n, .inr (.inl f)))] H → va_D A [(q, .inl (kc, n, .inr (.inl f)))] → va_S A s.heap H locs → lv_has ls 5 [(3, .int (nI i)), (4, .int (nI n)), (0, .ref q), (1, .long v)] → W p l e rm_fill s m args below meth c H locs 0 0 (MQ below (va_Qv (fun (_ : Unit) => True) (poW D [(kc, .long)] [(q, .inl (kc, n, .inr (.inl (fun _ => v))))] A) A) args s 0 0 A) (F0 m 6 ls []) := by
  obtain ⟨hx, hb, hr, hml, hown, ht, hlk, hA, hK⟩ := id C
  intro j
  induction j with
  | zero =>
    intro i f hi hf H locs ls hP hD hS hl
    obtain rfl : i = n := by omega
    refine lv_iload_n hx hb d_fillJ_6 rfl (lv_at hl 0 rfl) ?_
    refine lv_iload hx hb d_fillJ_7 (lv_at hl 1 rfl) ?_
    refine lv_icmp_ge (tgt := 22) hx hb d_fillJ_9 (by decide) (fun c1 => ?_) (fun c1 => ?_)
    · have hP := va_fillJ (g := fun _ => v) hP hf
      have hD := vd_one (y := .inl (kc, i, .inr (.inl (fun _ => v)))) hD
      exact W.vret hx hb hr (fun t ht hW => ⟨⟨(), rfl, trivial, by rw [ht]; exact hP, va_K.moved hW.alike hK, hD⟩, hS.F ht⟩) hS.2.2 d_fillJ_22 hlk
    · exact absurd (nI_le (Nat.le_refl _) hn) c1
  | succ j ih =>
    intro i f hi hf H locs ls hP hD hS hl
    refine lv_iload_n hx hb d_fillJ_6 rfl (lv_at hl 0 rfl) ?_
    refine lv_iload hx hb d_fillJ_7 (lv_at hl 1 rfl) ?_
    refine lv_icmp_ge (tgt := 22) hx hb d_fillJ_9 (by decide) (fun c1 => ?_) (fun c1 => ?_)
    · exact absurd c1 (nI_ge (by omega) hn)
    · refine lv_aload_n hx hb d_fillJ_12 rfl (lv_at hl 2 rfl) ?_
      refine lv_iload_n hx hb d_fillJ_13 rfl (lv_at hl 0 rfl) ?_
      refine lv_lload_n hx hb d_fillJ_14 rfl (lv_at hl 3 rfl) ?_
      refine va_last hx hb hK hP hD hS 0 0 rfl rfl (vp_in_nI (by omega) hn) d_fillJ_15 (fun H locs hP hD hS => ?_)
      rw [nI_clamp (by omega)] at hP hD
      have hP : va_P D classes [(q, .inl (kc, n, .inr (.inl (vp_updL f i v))))] H := hP
      have hD : va_D A [(q, .inl (kc, n, .inr (.inl (vp_updL f i v))))] := hD
      refine lv_iinc (v := nI (i + 1)) (lv' := [(3, .int (nI (i + 1))), (4, .int (nI n)), (0, .ref q), (1, .long v)]) hx hb d_fillJ_16 hl (k := 0) rfl (by rw [nI_succ]; rfl) (by decide) rfl (fun ls hl => ?_)
      refine lv_goto (tgt := 6) hx hb d_fillJ_19 (by decide) ?_
      exact ih (i + 1) (vp_updL f i v) (by omega) (fun t h => by
        by_cases q : t = i
        · rw [q]; exact pk_uLs
        · rw [pk_uLn q]; exact hf t (by omega)) H locs ls hP hD hS hl
set_option maxRecDepth 20000 in
theorem c_fillJ (l : Launch) (D : va_G) (q : Nat) (kc : ClassId) (n : Nat) (sz : Nat) (f : Nat → Int64) (v : Int64) (hn : n < 2 ^ 31) : Met l y_fillJ (Cond.code y_fillJ b_fillJ 5 none :: lw_g) rm_fill (va_Pc [.ref q, .long v] (pcW D [(kc, .long)] [(q, .inl (kc, n, .inr (.inl f)))] sz)) (va_Qv (fun (_ : Unit) => True) (poW D [(kc, .long)] [(q, .inl (kc, n, .inr (.inl (fun _ => v))))] (va_A [(q, .inl (kc, n, .inr (.inl f)))] sz)) (va_A [(q, .inl (kc, n, .inr (.inl f)))] sz)) 0 0 (va_A [(q, .inl (kc, n, .inr (.inl f)))] sz) := by
  refine Met.ofW (cc := b_fillJ) (maxL := 5) (ret := none) (by decide) rfl ?_
  intro p e s m args below meth c s₁ B hml hv
  obtain ⟨rfl, hsz, hP, hK, hD0⟩ := hv
  have hts := atoms_spec (ws := Cond.code y_fillJ b_fillJ 5 none :: lw_g) B.pre
  subst hsz
  have hD := hD0.self (sz := s.heap.size)
  have hl := lv_entry ([.ref q, .long v]) (n := 5) (Nat.le_of_ble_eq_true rfl)
  rw [lg_entry_eq]
  generalize (lg_sl ([.ref q, .long v]) ++ List.replicate (5 - (lg_sl ([.ref q, .long v])).length) Slot.unset).toArray = ls at hl ⊢
  have hl : lv_has ls 5 [(0, .ref q), (1, .long v)] := hl
  have C : cx D [(kc, .long)] "java/util/Arrays" b_fillJ 5 none (va_A [(q, .inl (kc, n, .inr (.inl f)))] s.heap.size) p s m [Value.ref q, Value.long v].toArray meth c := ⟨B.exec, B.bytes, B.returns, hml, findClass_of_methodNamed B.named, fun w hw => hts w (List.mem_cons_of_mem _ hw), B.notSynchronized, fun q h => Or.inr h, hK⟩
  obtain ⟨hx, hb, hr, hml, hown, ht, hlk, hA, hK⟩ := id C
  refine lv_iconst (v := 0) hx hb d_fillJ_0 (by decide) ?_
  refine lv_istore_n (lv' := [(3, .int 0), (0, .ref q), (1, .long v)]) hx hb d_fillJ_1 rfl hl (by decide) rfl (fun ls hl => ?_)
  refine lv_aload_n hx hb d_fillJ_2 rfl (lv_at hl 1 rfl) ?_
  refine va_alen (v := nI n) hx hb hK hP 0 0 rfl rfl rfl d_fillJ_3 ?_
  refine lv_istore (lv' := [(4, .int (nI n)), (3, .int 0), (0, .ref q), (1, .long v)]) hx hb d_fillJ_4 hl (by decide) rfl (fun ls hl => ?_)
  exact k_fillJ hn C n 0 f (by omega) (fun t h => absurd h (Nat.not_lt_zero t)) _ _ ls hP hD va_S.rf (lv_sub hl [1, 0, 2, 3] rfl)
end
section
def rm_B_isLabel : Room := { frames := 0, cells := 0, slots := 0, locals := 0 }
def qc_B_isLabel (D : va_G) (A : Nat → Prop) (a : Nat → Nat) (k : Nat → ClassId) (r : Int32) : Array Value → State → Outcome → State → Prop := va_Qi (fun (r1 : Int32) (_ : Unit) => r1 = r) (poW D [] (wN a k ) A) A
def J_B_isLabel_0 (x0 : Int32) : Option (Int32) :=
  (if x0 < (1 : Int32) then some ((0 : Int32)) else (if (99 : Int32) < x0 then some ((0 : Int32)) else some ((1 : Int32))))
def F_B_isLabel (x0 : Int32) : Option (Int32) := J_B_isLabel_0 x0
def H_B_isLabel_0 (p : Program) (l : Launch) (e : Env) (s : State) (m : MethodId) (args : Array Value) (below : List Frame) (meth : Method) (c : Code) (D : va_G) (A : Nat → Prop) (a : Nat → Nat) (k : Nat → ClassId) (f : Int32 → Option (Int32)) : Prop := ∀ (x0 : Int32) (r : Int32), f x0 = some r → ∀ (H : Heap) (locs : List Loc) (ls : Array Slot), va_P D classes (wN a k ) H → va_D A (wN a k ) → va_S A s.heap H locs → lv_has ls 1 [(0, .int x0)] → W p l e (rm_B_isLabel) s m args below meth c H locs 0 0 (MQ below (qc_B_isLabel D A a k r) args s 0 0 A) (F0 m 0 ls [])
set_option maxHeartbeats 4000000 in
set_option maxRecDepth 100000 in
theorem k_B_isLabel_0 {p : Program} {l : Launch} {e : Env} {s : State} {m : MethodId} {args : Array Value} {below : List Frame} {meth : Method} {c : Code} {D : va_G} {A : Nat → Prop} {a : Nat → Nat} {k : Nat → ClassId} (C : cx D [] R_B b_B_isLabel 1 (some .boolean) A p s m args meth c) : H_B_isLabel_0 p l e s m args below meth c D A a k (J_B_isLabel_0) := by
  obtain ⟨hx, hb, hr, hml, hown, ht, hlk, hA, hK⟩ := id C
  intro x0 r h H locs ls hP hD hS hl
  unfold J_B_isLabel_0 at h
  refine lv_iload_n hx hb d_B_isLabel_0 rfl (lv_at hl 0 rfl) ?_
  refine lv_iconst (v := 1) hx hb d_B_isLabel_1 (by decide) ?_
  refine lv_icmp_lt (tgt := 15) hx hb d_B_isLabel_2 (by decide) (fun c_1 => ?_) (fun c_1 => ?_)
  · have h := ite_T c_1 h
    refine lv_iconst (v := 0) hx hb d_B_isLabel_15 (by decide) ?_
    cases h
    exact W.zret hx hb hr rfl (fun t ht hW => ⟨⟨_, (), rfl, rfl, by rw [ht]; exact hP, va_K.moved hW.alike hK, hD⟩, hS.F ht⟩) hS.2.2 d_B_isLabel_16 hlk
  · have h := ite_F c_1 h
    refine lv_iload_n hx hb d_B_isLabel_5 rfl (lv_at hl 0 rfl) ?_
    refine lv_bipush (v := 99) hx hb d_B_isLabel_6 (by decide) ?_
    refine lv_icmp_gt (tgt := 15) hx hb d_B_isLabel_8 (by decide) (fun c_2 => ?_) (fun c_2 => ?_)
    · have h := ite_T c_2 h
      refine lv_iconst (v := 0) hx hb d_B_isLabel_15 (by decide) ?_
      cases h
      exact W.zret hx hb hr rfl (fun t ht hW => ⟨⟨_, (), rfl, rfl, by rw [ht]; exact hP, va_K.moved hW.alike hK, hD⟩, hS.F ht⟩) hS.2.2 d_B_isLabel_16 hlk
    · have h := ite_F c_2 h
      refine lv_iconst (v := 1) hx hb d_B_isLabel_11 (by decide) ?_
      refine lv_goto (tgt := 16) hx hb d_B_isLabel_12 (by decide) ?_
      cases h
      exact W.zret hx hb hr rfl (fun t ht hW => ⟨⟨_, (), rfl, rfl, by rw [ht]; exact hP, va_K.moved hW.alike hK, hD⟩, hS.F ht⟩) hS.2.2 d_B_isLabel_16 hlk
set_option maxRecDepth 20000 in
theorem c_B_isLabel (l : Launch) (D : va_G) (a : Nat → Nat) (k : Nat → ClassId) (sz : Nat) (x0 : Int32) (r : Int32) (h : F_B_isLabel x0 = some r) : Met l y_B_isLabel (Cond.code y_B_isLabel b_B_isLabel 1 (some .boolean) :: lw_g) (rm_B_isLabel) (va_Pc [.int x0] (pcW D [] (wN a k ) sz)) (qc_B_isLabel D (va_A (wN a k ) sz) a k r) 0 0 (va_A (wN a k ) sz) := by
  refine Met.ofW (cc := b_B_isLabel) (maxL := 1) (ret := (some .boolean)) (by decide) rfl ?_
  intro p e s m args below meth c s₁ B hml hv
  obtain ⟨rfl, hsz, hP, hK, hD0⟩ := hv
  have hts := atoms_spec (ws := Cond.code y_B_isLabel b_B_isLabel 1 (some .boolean) :: lw_g) B.pre
  subst hsz
  have hD := hD0.self (sz := s.heap.size)
  have hl := lv_entry ([.int x0]) (n := 1) (Nat.le_of_ble_eq_true rfl)
  rw [lg_entry_eq]
  generalize (lg_sl ([.int x0]) ++ List.replicate (1 - (lg_sl ([.int x0])).length) Slot.unset).toArray = ls at hl ⊢
  exact k_B_isLabel_0 ⟨B.exec, B.bytes, B.returns, hml, findClass_of_methodNamed B.named, fun w hw => hts w (List.mem_cons_of_mem _ hw), B.notSynchronized, fun q h => Or.inr h, hK⟩ _ _ h _ _ _ hP hD va_S.rf hl

def rm_B_renamed : Room := { frames := 1, cells := 0, slots := 0, locals := 14 }
def qc_B_renamed (D : va_G) (A : Nat → Prop) (a : Nat → Nat) (k : Nat → ClassId) (r : Int32) : Array Value → State → Outcome → State → Prop := va_Qi (fun (r1 : Int32) (_ : Unit) => r1 = r) (poW D [] (wN a k ) A) A
def J_B_renamed_0 (x0 : Int32) (x1 : Int32) (x2 : Int32) : Option (Int32) :=
  (if x0 = (if x1 < x2 then x2 else x1) then some ((if x2 < x1 then x2 else x1)) else some (x0))
def F_B_renamed (x0 : Int32) (x1 : Int32) (x2 : Int32) : Option (Int32) := J_B_renamed_0 x0 x1 x2
def H_B_renamed_0 (p : Program) (l : Launch) (e : Env) (s : State) (m : MethodId) (args : Array Value) (below : List Frame) (meth : Method) (c : Code) (D : va_G) (A : Nat → Prop) (a : Nat → Nat) (k : Nat → ClassId) (f : Int32 → Int32 → Int32 → Option (Int32)) : Prop := ∀ (x0 : Int32) (x1 : Int32) (x2 : Int32) (r : Int32), f x0 x1 x2 = some r → ∀ (H : Heap) (locs : List Loc) (ls : Array Slot), va_P D classes (wN a k ) H → va_D A (wN a k ) → va_S A s.heap H locs → lv_has ls 3 [(0, .int x0), (1, .int x1), (2, .int x2)] → W p l e (rm_B_renamed) s m args below meth c H locs 0 0 (MQ below (qc_B_renamed D A a k r) args s 0 0 A) (F0 m 0 ls [])
set_option maxHeartbeats 4000000 in
set_option maxRecDepth 100000 in
theorem k_B_renamed_0 {p : Program} {l : Launch} {e : Env} {s : State} {m : MethodId} {args : Array Value} {below : List Frame} {meth : Method} {c : Code} {D : va_G} {A : Nat → Prop} {a : Nat → Nat} {k : Nat → ClassId} (C : cx D [] R_B b_B_renamed 3 (some .int) A p s m args meth c) : H_B_renamed_0 p l e s m args below meth c D A a k (J_B_renamed_0) := by
  obtain ⟨hx, hb, hr, hml, hown, ht, hlk, hA, hK⟩ := id C
  intro x0 x1 x2 r h H locs ls hP hD hS hl
  unfold J_B_renamed_0 at h
  refine lv_iload_n hx hb d_B_renamed_0 rfl (lv_at hl 0 rfl) ?_
  refine lv_iload_n hx hb d_B_renamed_1 rfl (lv_at hl 1 rfl) ?_
  refine lv_iload_n hx hb d_B_renamed_2 rfl (lv_at hl 2 rfl) ?_
  refine va_mmax hx hb (by rw [hml]; exact hl.1.symm) hown (ht _ ix_0) (ht _ ix_1) (ht _ ix_2) (ht _ ix_3) (Nat.le_of_ble_eq_true rfl) (Nat.le_of_ble_eq_true rfl) (Nat.zero_le _) (Nat.zero_le _) d_B_renamed_3 ?_
  refine lv_icmp_ne (tgt := 17) hx hb d_B_renamed_6 (by decide) (fun c_1 => ?_) (fun c_1 => ?_)
  · have h := ite_F c_1 h
    refine lv_iload_n hx hb d_B_renamed_17 rfl (lv_at hl 0 rfl) ?_
    cases h
    exact W.iret hx hb hr (fun t ht hW => ⟨⟨_, (), rfl, rfl, by rw [ht]; exact hP, va_K.moved hW.alike hK, hD⟩, hS.F ht⟩) hS.2.2 d_B_renamed_18 hlk
  · have h := ite_T c_1 h
    refine lv_iload_n hx hb d_B_renamed_9 rfl (lv_at hl 1 rfl) ?_
    refine lv_iload_n hx hb d_B_renamed_10 rfl (lv_at hl 2 rfl) ?_
    refine va_mmin hx hb (by rw [hml]; exact hl.1.symm) hown (ht _ ix_4) (ht _ ix_5) (ht _ ix_2) (ht _ ix_6) (Nat.le_of_ble_eq_true rfl) (Nat.le_of_ble_eq_true rfl) (Nat.zero_le _) (Nat.zero_le _) d_B_renamed_11 ?_
    refine lv_goto (tgt := 18) hx hb d_B_renamed_14 (by decide) ?_
    cases h
    exact W.iret hx hb hr (fun t ht hW => ⟨⟨_, (), rfl, rfl, by rw [ht]; exact hP, va_K.moved hW.alike hK, hD⟩, hS.F ht⟩) hS.2.2 d_B_renamed_18 hlk
set_option maxRecDepth 20000 in
theorem c_B_renamed (l : Launch) (D : va_G) (a : Nat → Nat) (k : Nat → ClassId) (sz : Nat) (x0 : Int32) (x1 : Int32) (x2 : Int32) (r : Int32) (h : F_B_renamed x0 x1 x2 = some r) : Met l y_B_renamed (Cond.code y_B_renamed b_B_renamed 3 (some .int) :: lw_g) (rm_B_renamed) (va_Pc [.int x0, .int x1, .int x2] (pcW D [] (wN a k ) sz)) (qc_B_renamed D (va_A (wN a k ) sz) a k r) 0 0 (va_A (wN a k ) sz) := by
  refine Met.ofW (cc := b_B_renamed) (maxL := 3) (ret := (some .int)) (by decide) rfl ?_
  intro p e s m args below meth c s₁ B hml hv
  obtain ⟨rfl, hsz, hP, hK, hD0⟩ := hv
  have hts := atoms_spec (ws := Cond.code y_B_renamed b_B_renamed 3 (some .int) :: lw_g) B.pre
  subst hsz
  have hD := hD0.self (sz := s.heap.size)
  have hl := lv_entry ([.int x0, .int x1, .int x2]) (n := 3) (Nat.le_of_ble_eq_true rfl)
  rw [lg_entry_eq]
  generalize (lg_sl ([.int x0, .int x1, .int x2]) ++ List.replicate (3 - (lg_sl ([.int x0, .int x1, .int x2])).length) Slot.unset).toArray = ls at hl ⊢
  exact k_B_renamed_0 ⟨B.exec, B.bytes, B.returns, hml, findClass_of_methodNamed B.named, fun w hw => hts w (List.mem_cons_of_mem _ hw), B.notSynchronized, fun q h => Or.inr h, hK⟩ _ _ _ _ h _ _ _ hP hD va_S.rf hl

def rm_W_join : Room := { frames := 0, cells := 0, slots := 0, locals := 0 }
def qc_W_join (D : va_G) (A : Nat → Prop) (a : Nat → Nat) (k : Nat → ClassId) (fp : Nat → Int32) (r : Int32 × (Nat → Int32)) : Array Value → State → Outcome → State → Prop := va_Qi (fun (r1 : Int32) (_ : Unit) => r1 = r.1) (poW D [(k 8, .int), (k 9, .int)] (wW a k r.2 fp) A) A
def J_W_join_0 (x1 : Int32) (x2 : Int32) (oe : Nat → Int32) : Option (Int32 × (Nat → Int32)) :=
  (if inb x1 40 then (if (oe x1.toNatClampNeg) = x2 then some ((1 : Int32), oe) else (if inb x1 40 then (if inb x2 40 then (if inb (oe x1.toNatClampNeg) 40 then (if inb (oe x2.toNatClampNeg) 40 then some ((0 : Int32), (upd (upd oe (oe x1.toNatClampNeg).toNatClampNeg (oe x2.toNatClampNeg)) (oe x2.toNatClampNeg).toNatClampNeg (oe x1.toNatClampNeg))) else none) else none) else none) else none)) else none)
def F_W_join (x1 : Int32) (x2 : Int32) (oe : Nat → Int32) : Option (Int32 × (Nat → Int32)) := J_W_join_0 x1 x2 oe
def H_W_join_0 (p : Program) (l : Launch) (e : Env) (s : State) (m : MethodId) (args : Array Value) (below : List Frame) (meth : Method) (c : Code) (D : va_G) (A : Nat → Prop) (a : Nat → Nat) (k : Nat → ClassId) (fp : Nat → Int32) (f : Int32 → Int32 → (Nat → Int32) → Option (Int32 × (Nat → Int32))) : Prop := ∀ (x1 : Int32) (x2 : Int32) (oe : Nat → Int32) (r : Int32 × (Nat → Int32)), f x1 x2 oe = some r → ∀ (H : Heap) (locs : List Loc) (ls : Array Slot), va_P D classes (wW a k oe fp) H → va_D A (wW a k oe fp) → va_S A s.heap H locs → lv_has ls 5 [(0, .ref (a 7)), (1, .int x1), (2, .int x2)] → W p l e (rm_W_join) s m args below meth c H locs 0 0 (MQ below (qc_W_join D A a k fp r) args s 0 0 A) (F0 m 0 ls [])
set_option maxHeartbeats 4000000 in
set_option maxRecDepth 100000 in
theorem k_W_join_0 {p : Program} {l : Launch} {e : Env} {s : State} {m : MethodId} {args : Array Value} {below : List Frame} {meth : Method} {c : Code} {D : va_G} {A : Nat → Prop} {a : Nat → Nat} {k : Nat → ClassId} {fp : Nat → Int32} (C : cx D [(k 8, .int), (k 9, .int)] R_W b_W_join 5 (some .int) A p s m args meth c) : H_W_join_0 p l e s m args below meth c D A a k fp (J_W_join_0) := by
  obtain ⟨hx, hb, hr, hml, hown, ht, hlk, hA, hK⟩ := id C
  intro x1 x2 oe r h H locs ls hP hD hS hl
  unfold J_W_join_0 at h
  refine lv_aload_n hx hb d_W_join_0 rfl (lv_at hl 0 rfl) ?_
  refine va_get (D := D) (ci := 1) (v := .ref (a 8)) (C := R_W) (T := F_W) (N := 2) hx hb ht iC_W hown hK hP 0 rfl rfl 0 (by decide) (ht _ ix_7) (fun _ h9 => h9) rfl d_W_join_1 ?_
  refine lv_iload_n hx hb d_W_join_4 rfl (lv_at hl 1 rfl) ?_
  obtain ⟨g_1, h⟩ := gd_some h
  refine va_iald hx hb hK hP 1 0 rfl rfl (inb_in g_1) d_W_join_5 ?_
  refine lv_iload_n hx hb d_W_join_6 rfl (lv_at hl 2 rfl) ?_
  refine lv_icmp_ne (tgt := 12) hx hb d_W_join_7 (by decide) (fun c_2 => ?_) (fun c_2 => ?_)
  · have h := ite_F c_2 h
    refine lv_aload_n hx hb d_W_join_12 rfl (lv_at hl 0 rfl) ?_
    refine va_get (D := D) (ci := 1) (v := .ref (a 8)) (C := R_W) (T := F_W) (N := 2) hx hb ht iC_W hown hK hP 0 rfl rfl 0 (by decide) (ht _ ix_7) (fun _ h9 => h9) rfl d_W_join_13 ?_
    refine lv_iload_n hx hb d_W_join_16 rfl (lv_at hl 1 rfl) ?_
    obtain ⟨g_3, h⟩ := gd_some h
    refine va_iald hx hb hK hP 1 0 rfl rfl (inb_in g_3) d_W_join_17 ?_
    refine lv_istore_n (lv' := [(3, .int (oe x1.toNatClampNeg)), (0, .ref (a 7)), (1, .int x1), (2, .int x2)]) hx hb d_W_join_18 rfl hl (by decide) rfl (fun ls hl => ?_)
    refine lv_aload_n hx hb d_W_join_19 rfl (lv_at hl 1 rfl) ?_
    refine va_get (D := D) (ci := 1) (v := .ref (a 8)) (C := R_W) (T := F_W) (N := 2) hx hb ht iC_W hown hK hP 0 rfl rfl 0 (by decide) (ht _ ix_7) (fun _ h9 => h9) rfl d_W_join_20 ?_
    refine lv_iload_n hx hb d_W_join_23 rfl (lv_at hl 3 rfl) ?_
    obtain ⟨g_4, h⟩ := gd_some h
    refine va_iald hx hb hK hP 1 0 rfl rfl (inb_in g_4) d_W_join_24 ?_
    refine lv_istore (lv' := [(4, .int (oe x2.toNatClampNeg)), (3, .int (oe x1.toNatClampNeg)), (0, .ref (a 7)), (1, .int x1), (2, .int x2)]) hx hb d_W_join_25 hl (by decide) rfl (fun ls hl => ?_)
    refine lv_aload_n hx hb d_W_join_27 rfl (lv_at hl 2 rfl) ?_
    refine va_get (D := D) (ci := 1) (v := .ref (a 8)) (C := R_W) (T := F_W) (N := 2) hx hb ht iC_W hown hK hP 0 rfl rfl 0 (by decide) (ht _ ix_7) (fun _ h9 => h9) rfl d_W_join_28 ?_
    refine lv_iload_n hx hb d_W_join_31 rfl (lv_at hl 1 rfl) ?_
    refine lv_iload hx hb d_W_join_32 (lv_at hl 0 rfl) ?_
    obtain ⟨g_5, h⟩ := gd_some h
    refine va_iast hx hb hK hP hD hS 1 0 rfl rfl (inb_in g_5) d_W_join_34 (fun H locs hP hD hS => ?_)
    have hP : va_P D classes (wW a k (upd oe (oe x1.toNatClampNeg).toNatClampNeg (oe x2.toNatClampNeg)) fp) H := hP
    have hD : va_D A (wW a k (upd oe (oe x1.toNatClampNeg).toNatClampNeg (oe x2.toNatClampNeg)) fp) := hD
    refine lv_aload_n hx hb d_W_join_35 rfl (lv_at hl 2 rfl) ?_
    refine va_get (D := D) (ci := 1) (v := .ref (a 8)) (C := R_W) (T := F_W) (N := 2) hx hb ht iC_W hown hK hP 0 rfl rfl 0 (by decide) (ht _ ix_7) (fun _ h9 => h9) rfl d_W_join_36 ?_
    refine lv_iload hx hb d_W_join_39 (lv_at hl 0 rfl) ?_
    refine lv_iload_n hx hb d_W_join_41 rfl (lv_at hl 1 rfl) ?_
    obtain ⟨g_6, h⟩ := gd_some h
    refine va_iast hx hb hK hP hD hS 1 0 rfl rfl (inb_in g_6) d_W_join_42 (fun H locs hP hD hS => ?_)
    have hP : va_P D classes (wW a k (upd (upd oe (oe x1.toNatClampNeg).toNatClampNeg (oe x2.toNatClampNeg)) (oe x2.toNatClampNeg).toNatClampNeg (oe x1.toNatClampNeg)) fp) H := hP
    have hD : va_D A (wW a k (upd (upd oe (oe x1.toNatClampNeg).toNatClampNeg (oe x2.toNatClampNeg)) (oe x2.toNatClampNeg).toNatClampNeg (oe x1.toNatClampNeg)) fp) := hD
    refine lv_iconst (v := 0) hx hb d_W_join_43 (by decide) ?_
    cases h
    exact W.iret hx hb hr (fun t ht hW => ⟨⟨_, (), rfl, rfl, by rw [ht]; exact hP, va_K.moved hW.alike hK, hD⟩, hS.F ht⟩) hS.2.2 d_W_join_44 hlk
  · have h := ite_T c_2 h
    refine lv_iconst (v := 1) hx hb d_W_join_10 (by decide) ?_
    cases h
    exact W.iret hx hb hr (fun t ht hW => ⟨⟨_, (), rfl, rfl, by rw [ht]; exact hP, va_K.moved hW.alike hK, hD⟩, hS.F ht⟩) hS.2.2 d_W_join_11 hlk
set_option maxRecDepth 20000 in
theorem c_W_join (l : Launch) (D : va_G) (a : Nat → Nat) (k : Nat → ClassId) (sz : Nat) (x1 : Int32) (x2 : Int32) (oe : Nat → Int32) (fp : Nat → Int32) (r : Int32 × (Nat → Int32)) (h : F_W_join x1 x2 oe = some r) : Met l y_W_join (Cond.code y_W_join b_W_join 5 (some .int) :: lw_g) (rm_W_join) (va_Pc [.ref (a 7), .int x1, .int x2] (pcW D [(k 8, .int), (k 9, .int)] (wW a k oe fp) sz)) (qc_W_join D (va_A (wW a k oe fp) sz) a k fp r) 0 0 (va_A (wW a k oe fp) sz) := by
  refine Met.ofW (cc := b_W_join) (maxL := 5) (ret := (some .int)) (by decide) rfl ?_
  intro p e s m args below meth c s₁ B hml hv
  obtain ⟨rfl, hsz, hP, hK, hD0⟩ := hv
  have hts := atoms_spec (ws := Cond.code y_W_join b_W_join 5 (some .int) :: lw_g) B.pre
  subst hsz
  have hD := hD0.self (sz := s.heap.size)
  have hl := lv_entry ([.ref (a 7), .int x1, .int x2]) (n := 5) (Nat.le_of_ble_eq_true rfl)
  rw [lg_entry_eq]
  generalize (lg_sl ([.ref (a 7), .int x1, .int x2]) ++ List.replicate (5 - (lg_sl ([.ref (a 7), .int x1, .int x2])).length) Slot.unset).toArray = ls at hl ⊢
  exact k_W_join_0 ⟨B.exec, B.bytes, B.returns, hml, findClass_of_methodNamed B.named, fun w hw => hts w (List.mem_cons_of_mem _ hw), B.notSynchronized, fun q h => Or.inr h, hK⟩ _ _ _ _ h _ _ _ hP hD va_S.rf hl

def rm_W_part : Room := { frames := 0, cells := 0, slots := 0, locals := 0 }
def qc_W_part (D : va_G) (A : Nat → Prop) (a : Nat → Nat) (k : Nat → ClassId) (fp : Nat → Int32) (r : (Nat → Int32)) : Array Value → State → Outcome → State → Prop := va_Qv (fun (_ : Unit) => True) (poW D [(k 8, .int), (k 9, .int)] (wW a k r fp) A) A
def J_W_part_0 (x1 : Int32) (x2 : Int32) (oe : Nat → Int32) : Option ((Nat → Int32)) :=
  (if inb x1 40 then (if inb (oe x1.toNatClampNeg) 40 then (if inb x2 40 then (if inb ((upd oe (oe x1.toNatClampNeg).toNatClampNeg x1) x2.toNatClampNeg) 40 then some ((upd (upd oe (oe x1.toNatClampNeg).toNatClampNeg x1) ((upd oe (oe x1.toNatClampNeg).toNatClampNeg x1) x2.toNatClampNeg).toNatClampNeg x2)) else none) else none) else none) else none)
def F_W_part (x1 : Int32) (x2 : Int32) (oe : Nat → Int32) : Option ((Nat → Int32)) := J_W_part_0 x1 x2 oe
def H_W_part_0 (p : Program) (l : Launch) (e : Env) (s : State) (m : MethodId) (args : Array Value) (below : List Frame) (meth : Method) (c : Code) (D : va_G) (A : Nat → Prop) (a : Nat → Nat) (k : Nat → ClassId) (fp : Nat → Int32) (f : Int32 → Int32 → (Nat → Int32) → Option ((Nat → Int32))) : Prop := ∀ (x1 : Int32) (x2 : Int32) (oe : Nat → Int32) (r : (Nat → Int32)), f x1 x2 oe = some r → ∀ (H : Heap) (locs : List Loc) (ls : Array Slot), va_P D classes (wW a k oe fp) H → va_D A (wW a k oe fp) → va_S A s.heap H locs → lv_has ls 3 [(0, .ref (a 7)), (1, .int x1), (2, .int x2)] → W p l e (rm_W_part) s m args below meth c H locs 0 0 (MQ below (qc_W_part D A a k fp r) args s 0 0 A) (F0 m 0 ls [])
set_option maxHeartbeats 4000000 in
set_option maxRecDepth 100000 in
theorem k_W_part_0 {p : Program} {l : Launch} {e : Env} {s : State} {m : MethodId} {args : Array Value} {below : List Frame} {meth : Method} {c : Code} {D : va_G} {A : Nat → Prop} {a : Nat → Nat} {k : Nat → ClassId} {fp : Nat → Int32} (C : cx D [(k 8, .int), (k 9, .int)] R_W b_W_part 3 none A p s m args meth c) : H_W_part_0 p l e s m args below meth c D A a k fp (J_W_part_0) := by
  obtain ⟨hx, hb, hr, hml, hown, ht, hlk, hA, hK⟩ := id C
  intro x1 x2 oe r h H locs ls hP hD hS hl
  unfold J_W_part_0 at h
  refine lv_aload_n hx hb d_W_part_0 rfl (lv_at hl 0 rfl) ?_
  refine va_get (D := D) (ci := 1) (v := .ref (a 8)) (C := R_W) (T := F_W) (N := 2) hx hb ht iC_W hown hK hP 0 rfl rfl 0 (by decide) (ht _ ix_7) (fun _ h9 => h9) rfl d_W_part_1 ?_
  refine lv_aload_n hx hb d_W_part_4 rfl (lv_at hl 0 rfl) ?_
  refine va_get (D := D) (ci := 1) (v := .ref (a 8)) (C := R_W) (T := F_W) (N := 2) hx hb ht iC_W hown hK hP 0 rfl rfl 0 (by decide) (ht _ ix_7) (fun _ h9 => h9) rfl d_W_part_5 ?_
  refine lv_iload_n hx hb d_W_part_8 rfl (lv_at hl 1 rfl) ?_
  obtain ⟨g_1, h⟩ := gd_some h
  refine va_iald hx hb hK hP 1 0 rfl rfl (inb_in g_1) d_W_part_9 ?_
  refine lv_iload_n hx hb d_W_part_10 rfl (lv_at hl 1 rfl) ?_
  obtain ⟨g_2, h⟩ := gd_some h
  refine va_iast hx hb hK hP hD hS 1 0 rfl rfl (inb_in g_2) d_W_part_11 (fun H locs hP hD hS => ?_)
  have hP : va_P D classes (wW a k (upd oe (oe x1.toNatClampNeg).toNatClampNeg x1) fp) H := hP
  have hD : va_D A (wW a k (upd oe (oe x1.toNatClampNeg).toNatClampNeg x1) fp) := hD
  refine lv_aload_n hx hb d_W_part_12 rfl (lv_at hl 0 rfl) ?_
  refine va_get (D := D) (ci := 1) (v := .ref (a 8)) (C := R_W) (T := F_W) (N := 2) hx hb ht iC_W hown hK hP 0 rfl rfl 0 (by decide) (ht _ ix_7) (fun _ h9 => h9) rfl d_W_part_13 ?_
  refine lv_aload_n hx hb d_W_part_16 rfl (lv_at hl 0 rfl) ?_
  refine va_get (D := D) (ci := 1) (v := .ref (a 8)) (C := R_W) (T := F_W) (N := 2) hx hb ht iC_W hown hK hP 0 rfl rfl 0 (by decide) (ht _ ix_7) (fun _ h9 => h9) rfl d_W_part_17 ?_
  refine lv_iload_n hx hb d_W_part_20 rfl (lv_at hl 2 rfl) ?_
  obtain ⟨g_3, h⟩ := gd_some h
  refine va_iald hx hb hK hP 1 0 rfl rfl (inb_in g_3) d_W_part_21 ?_
  refine lv_iload_n hx hb d_W_part_22 rfl (lv_at hl 2 rfl) ?_
  obtain ⟨g_4, h⟩ := gd_some h
  refine va_iast hx hb hK hP hD hS 1 0 rfl rfl (inb_in g_4) d_W_part_23 (fun H locs hP hD hS => ?_)
  have hP : va_P D classes (wW a k (upd (upd oe (oe x1.toNatClampNeg).toNatClampNeg x1) ((upd oe (oe x1.toNatClampNeg).toNatClampNeg x1) x2.toNatClampNeg).toNatClampNeg x2) fp) H := hP
  have hD : va_D A (wW a k (upd (upd oe (oe x1.toNatClampNeg).toNatClampNeg x1) ((upd oe (oe x1.toNatClampNeg).toNatClampNeg x1) x2.toNatClampNeg).toNatClampNeg x2) fp) := hD
  cases h
  exact W.vret hx hb hr (fun t ht hW => ⟨⟨(), rfl, trivial, by rw [ht]; exact hP, va_K.moved hW.alike hK, hD⟩, hS.F ht⟩) hS.2.2 d_W_part_24 hlk
set_option maxRecDepth 20000 in
theorem c_W_part (l : Launch) (D : va_G) (a : Nat → Nat) (k : Nat → ClassId) (sz : Nat) (x1 : Int32) (x2 : Int32) (oe : Nat → Int32) (fp : Nat → Int32) (r : (Nat → Int32)) (h : F_W_part x1 x2 oe = some r) : Met l y_W_part (Cond.code y_W_part b_W_part 3 none :: lw_g) (rm_W_part) (va_Pc [.ref (a 7), .int x1, .int x2] (pcW D [(k 8, .int), (k 9, .int)] (wW a k oe fp) sz)) (qc_W_part D (va_A (wW a k oe fp) sz) a k fp r) 0 0 (va_A (wW a k oe fp) sz) := by
  refine Met.ofW (cc := b_W_part) (maxL := 3) (ret := none) (by decide) rfl ?_
  intro p e s m args below meth c s₁ B hml hv
  obtain ⟨rfl, hsz, hP, hK, hD0⟩ := hv
  have hts := atoms_spec (ws := Cond.code y_W_part b_W_part 3 none :: lw_g) B.pre
  subst hsz
  have hD := hD0.self (sz := s.heap.size)
  have hl := lv_entry ([.ref (a 7), .int x1, .int x2]) (n := 3) (Nat.le_of_ble_eq_true rfl)
  rw [lg_entry_eq]
  generalize (lg_sl ([.ref (a 7), .int x1, .int x2]) ++ List.replicate (3 - (lg_sl ([.ref (a 7), .int x1, .int x2])).length) Slot.unset).toArray = ls at hl ⊢
  exact k_W_part_0 ⟨B.exec, B.bytes, B.returns, hml, findClass_of_methodNamed B.named, fun w hw => hts w (List.mem_cons_of_mem _ hw), B.notSynchronized, fun q h => Or.inr h, hK⟩ _ _ _ _ h _ _ _ hP hD va_S.rf hl

def rm_W_smooth : Room := { frames := 1, cells := 0, slots := 0, locals := 24 }
def qc_W_smooth (D : va_G) (A : Nat → Prop) (a : Nat → Nat) (k : Nat → ClassId) (fp : Nat → Int32) (r : Int32 × (Nat → Int32)) : Array Value → State → Outcome → State → Prop := va_Qi (fun (r1 : Int32) (_ : Unit) => r1 = r.1) (poW D [(k 8, .int), (k 9, .int)] (wW a k r.2 fp) A) A
def J_W_smooth_0 (x1 : Int32) (x2 : Int32) (oe : Nat → Int32) : Option (Int32 × (Nat → Int32)) :=
  (if x2 = 0 then (Option.bind (F_W_join (((4 : Int32) * x1) + (1 : Int32)) (((4 : Int32) * x1) + (2 : Int32)) oe) (fun v_2 => (Option.bind (F_W_join (((4 : Int32) * x1) + (3 : Int32)) ((4 : Int32) * x1) v_2.2) (fun v_3 => some ((v_2.1 + v_3.1), v_3.2))))) else (Option.bind (F_W_join ((4 : Int32) * x1) (((4 : Int32) * x1) + (1 : Int32)) oe) (fun v_4 => (Option.bind (F_W_join (((4 : Int32) * x1) + (2 : Int32)) (((4 : Int32) * x1) + (3 : Int32)) v_4.2) (fun v_5 => some ((v_4.1 + v_5.1), v_5.2))))))
def F_W_smooth (x1 : Int32) (x2 : Int32) (oe : Nat → Int32) : Option (Int32 × (Nat → Int32)) := J_W_smooth_0 x1 x2 oe
def H_W_smooth_0 (p : Program) (l : Launch) (e : Env) (s : State) (m : MethodId) (args : Array Value) (below : List Frame) (meth : Method) (c : Code) (D : va_G) (A : Nat → Prop) (a : Nat → Nat) (k : Nat → ClassId) (fp : Nat → Int32) (f : Int32 → Int32 → (Nat → Int32) → Option (Int32 × (Nat → Int32))) : Prop := ∀ (x1 : Int32) (x2 : Int32) (oe : Nat → Int32) (r : Int32 × (Nat → Int32)), f x1 x2 oe = some r → ∀ (H : Heap) (locs : List Loc) (ls : Array Slot), va_P D classes (wW a k oe fp) H → va_D A (wW a k oe fp) → va_S A s.heap H locs → lv_has ls 4 [(0, .ref (a 7)), (1, .int x1), (2, .int x2)] → W p l e (rm_W_smooth) s m args below meth c H locs 0 0 (MQ below (qc_W_smooth D A a k fp r) args s 0 0 A) (F0 m 0 ls [])
set_option maxHeartbeats 4000000 in
set_option maxRecDepth 100000 in
theorem k_W_smooth_0 {p : Program} {l : Launch} {e : Env} {s : State} {m : MethodId} {args : Array Value} {below : List Frame} {meth : Method} {c : Code} {D : va_G} {A : Nat → Prop} {a : Nat → Nat} {k : Nat → ClassId} {fp : Nat → Int32} (C : cx D [(k 8, .int), (k 9, .int)] R_W b_W_smooth 4 (some .int) A p s m args meth c) : H_W_smooth_0 p l e s m args below meth c D A a k fp (J_W_smooth_0) := by
  obtain ⟨hx, hb, hr, hml, hown, ht, hlk, hA, hK⟩ := id C
  intro x1 x2 oe r h H locs ls hP hD hS hl
  unfold J_W_smooth_0 at h
  refine lv_iconst (v := 4) hx hb d_W_smooth_0 (by decide) ?_
  refine lv_iload_n hx hb d_W_smooth_1 rfl (lv_at hl 1 rfl) ?_
  refine lv_imul hx hb d_W_smooth_2 ?_
  refine lv_istore_n (lv' := [(3, .int ((4 : Int32) * x1)), (0, .ref (a 7)), (1, .int x1), (2, .int x2)]) hx hb d_W_smooth_3 rfl hl (by decide) rfl (fun ls hl => ?_)
  refine lv_iload_n hx hb d_W_smooth_4 rfl (lv_at hl 3 rfl) ?_
  refine lv_if_eq (tgt := 28) hx hb d_W_smooth_5 (by decide) (fun c_1 => ?_) (fun c_1 => ?_)
  · have h := ite_T c_1 h
    refine lv_aload_n hx hb d_W_smooth_28 rfl (lv_at hl 1 rfl) ?_
    refine lv_iload_n hx hb d_W_smooth_29 rfl (lv_at hl 0 rfl) ?_
    refine lv_iconst (v := 1) hx hb d_W_smooth_30 (by decide) ?_
    refine lv_iadd hx hb d_W_smooth_31 ?_
    refine lv_iload_n hx hb d_W_smooth_32 rfl (lv_at hl 0 rfl) ?_
    refine lv_iconst (v := 2) hx hb d_W_smooth_33 (by decide) ?_
    refine lv_iadd hx hb d_W_smooth_34 ?_
    obtain ⟨v_2, e_2, h⟩ := bd_some h
    refine go_Vi (r := v_2.1) (As := [.int (((4 : Int32) * x1) + (1 : Int32)), .int (((4 : Int32) * x1) + (2 : Int32))]) (rest := []) (wc := (wW a k oe fp)) (wr := []) (w1 := (wW a k v_2.2 fp)) (w2 := (wW a k v_2.2 fp)) (tc := [(k 8, .int), (k 9, .int)]) hx hb hml hown ht (c_W_join l D a k H.size (((4 : Int32) * x1) + (1 : Int32)) (((4 : Int32) * x1) + (2 : Int32)) oe fp v_2 e_2) g_W_24 ⟨rfl, rfl⟩ (n := 2) (by decide +kernel) ⟨(Nat.le_of_ble_eq_true rfl), (Nat.le_of_ble_eq_true rfl)⟩ hP hD hK hS hA ⟨Nat.zero_le _, Nat.zero_le _⟩ [0, 1, 2] [] [0, 1] [0, 1, 2] rfl rfl rfl rfl (by decide) (by decide) (by decide) rfl (by decide) 0 rfl rfl rfl rfl rfl hl.1 (Nat.le_of_ble_eq_true rfl) d_W_smooth_35 (fun H locs hP hD hS => ?_)
    refine lv_aload_n hx hb d_W_smooth_38 rfl (lv_at hl 1 rfl) ?_
    refine lv_iload_n hx hb d_W_smooth_39 rfl (lv_at hl 0 rfl) ?_
    refine lv_iconst (v := 3) hx hb d_W_smooth_40 (by decide) ?_
    refine lv_iadd hx hb d_W_smooth_41 ?_
    refine lv_iload_n hx hb d_W_smooth_42 rfl (lv_at hl 0 rfl) ?_
    obtain ⟨v_3, e_3, h⟩ := bd_some h
    refine go_Vi (r := v_3.1) (As := [.int (((4 : Int32) * x1) + (3 : Int32)), .int ((4 : Int32) * x1)]) (rest := [.int v_2.1]) (wc := (wW a k v_2.2 fp)) (wr := []) (w1 := (wW a k v_3.2 fp)) (w2 := (wW a k v_3.2 fp)) (tc := [(k 8, .int), (k 9, .int)]) hx hb hml hown ht (c_W_join l D a k H.size (((4 : Int32) * x1) + (3 : Int32)) ((4 : Int32) * x1) v_2.2 fp v_3 e_3) g_W_24 ⟨rfl, rfl⟩ (n := 2) (by decide +kernel) ⟨(Nat.le_of_ble_eq_true rfl), (Nat.le_of_ble_eq_true rfl)⟩ hP hD hK hS hA ⟨Nat.zero_le _, Nat.zero_le _⟩ [0, 1, 2] [] [0, 1] [0, 1, 2] rfl rfl rfl rfl (by decide) (by decide) (by decide) rfl (by decide) 0 rfl rfl rfl rfl rfl hl.1 (Nat.le_of_ble_eq_true rfl) d_W_smooth_43 (fun H locs hP hD hS => ?_)
    refine lv_iadd hx hb d_W_smooth_46 ?_
    cases h
    exact W.iret hx hb hr (fun t ht hW => ⟨⟨_, (), rfl, rfl, by rw [ht]; exact hP, va_K.moved hW.alike hK, hD⟩, hS.F ht⟩) hS.2.2 d_W_smooth_47 hlk
  · have h := ite_F c_1 h
    refine lv_aload_n hx hb d_W_smooth_8 rfl (lv_at hl 1 rfl) ?_
    refine lv_iload_n hx hb d_W_smooth_9 rfl (lv_at hl 0 rfl) ?_
    refine lv_iload_n hx hb d_W_smooth_10 rfl (lv_at hl 0 rfl) ?_
    refine lv_iconst (v := 1) hx hb d_W_smooth_11 (by decide) ?_
    refine lv_iadd hx hb d_W_smooth_12 ?_
    obtain ⟨v_4, e_4, h⟩ := bd_some h
    refine go_Vi (r := v_4.1) (As := [.int ((4 : Int32) * x1), .int (((4 : Int32) * x1) + (1 : Int32))]) (rest := []) (wc := (wW a k oe fp)) (wr := []) (w1 := (wW a k v_4.2 fp)) (w2 := (wW a k v_4.2 fp)) (tc := [(k 8, .int), (k 9, .int)]) hx hb hml hown ht (c_W_join l D a k H.size ((4 : Int32) * x1) (((4 : Int32) * x1) + (1 : Int32)) oe fp v_4 e_4) g_W_24 ⟨rfl, rfl⟩ (n := 2) (by decide +kernel) ⟨(Nat.le_of_ble_eq_true rfl), (Nat.le_of_ble_eq_true rfl)⟩ hP hD hK hS hA ⟨Nat.zero_le _, Nat.zero_le _⟩ [0, 1, 2] [] [0, 1] [0, 1, 2] rfl rfl rfl rfl (by decide) (by decide) (by decide) rfl (by decide) 0 rfl rfl rfl rfl rfl hl.1 (Nat.le_of_ble_eq_true rfl) d_W_smooth_13 (fun H locs hP hD hS => ?_)
    refine lv_aload_n hx hb d_W_smooth_16 rfl (lv_at hl 1 rfl) ?_
    refine lv_iload_n hx hb d_W_smooth_17 rfl (lv_at hl 0 rfl) ?_
    refine lv_iconst (v := 2) hx hb d_W_smooth_18 (by decide) ?_
    refine lv_iadd hx hb d_W_smooth_19 ?_
    refine lv_iload_n hx hb d_W_smooth_20 rfl (lv_at hl 0 rfl) ?_
    refine lv_iconst (v := 3) hx hb d_W_smooth_21 (by decide) ?_
    refine lv_iadd hx hb d_W_smooth_22 ?_
    obtain ⟨v_5, e_5, h⟩ := bd_some h
    refine go_Vi (r := v_5.1) (As := [.int (((4 : Int32) * x1) + (2 : Int32)), .int (((4 : Int32) * x1) + (3 : Int32))]) (rest := [.int v_4.1]) (wc := (wW a k v_4.2 fp)) (wr := []) (w1 := (wW a k v_5.2 fp)) (w2 := (wW a k v_5.2 fp)) (tc := [(k 8, .int), (k 9, .int)]) hx hb hml hown ht (c_W_join l D a k H.size (((4 : Int32) * x1) + (2 : Int32)) (((4 : Int32) * x1) + (3 : Int32)) v_4.2 fp v_5 e_5) g_W_24 ⟨rfl, rfl⟩ (n := 2) (by decide +kernel) ⟨(Nat.le_of_ble_eq_true rfl), (Nat.le_of_ble_eq_true rfl)⟩ hP hD hK hS hA ⟨Nat.zero_le _, Nat.zero_le _⟩ [0, 1, 2] [] [0, 1] [0, 1, 2] rfl rfl rfl rfl (by decide) (by decide) (by decide) rfl (by decide) 0 rfl rfl rfl rfl rfl hl.1 (Nat.le_of_ble_eq_true rfl) d_W_smooth_23 (fun H locs hP hD hS => ?_)
    refine lv_iadd hx hb d_W_smooth_26 ?_
    cases h
    exact W.iret hx hb hr (fun t ht hW => ⟨⟨_, (), rfl, rfl, by rw [ht]; exact hP, va_K.moved hW.alike hK, hD⟩, hS.F ht⟩) hS.2.2 d_W_smooth_27 hlk
set_option maxRecDepth 20000 in
theorem c_W_smooth (l : Launch) (D : va_G) (a : Nat → Nat) (k : Nat → ClassId) (sz : Nat) (x1 : Int32) (x2 : Int32) (oe : Nat → Int32) (fp : Nat → Int32) (r : Int32 × (Nat → Int32)) (h : F_W_smooth x1 x2 oe = some r) : Met l y_W_smooth (Cond.code y_W_smooth b_W_smooth 4 (some .int) :: lw_g) (rm_W_smooth) (va_Pc [.ref (a 7), .int x1, .int x2] (pcW D [(k 8, .int), (k 9, .int)] (wW a k oe fp) sz)) (qc_W_smooth D (va_A (wW a k oe fp) sz) a k fp r) 0 0 (va_A (wW a k oe fp) sz) := by
  refine Met.ofW (cc := b_W_smooth) (maxL := 4) (ret := (some .int)) (by decide) rfl ?_
  intro p e s m args below meth c s₁ B hml hv
  obtain ⟨rfl, hsz, hP, hK, hD0⟩ := hv
  have hts := atoms_spec (ws := Cond.code y_W_smooth b_W_smooth 4 (some .int) :: lw_g) B.pre
  subst hsz
  have hD := hD0.self (sz := s.heap.size)
  have hl := lv_entry ([.ref (a 7), .int x1, .int x2]) (n := 4) (Nat.le_of_ble_eq_true rfl)
  rw [lg_entry_eq]
  generalize (lg_sl ([.ref (a 7), .int x1, .int x2]) ++ List.replicate (4 - (lg_sl ([.ref (a 7), .int x1, .int x2])).length) Slot.unset).toArray = ls at hl ⊢
  exact k_W_smooth_0 ⟨B.exec, B.bytes, B.returns, hml, findClass_of_methodNamed B.named, fun w hw => hts w (List.mem_cons_of_mem _ hw), B.notSynchronized, fun q h => Or.inr h, hK⟩ _ _ _ _ h _ _ _ hP hD va_S.rf hl

def rm_W_undo : Room := { frames := 1, cells := 0, slots := 0, locals := 22 }
def qc_W_undo (D : va_G) (A : Nat → Prop) (a : Nat → Nat) (k : Nat → ClassId) (fp : Nat → Int32) (r : (Nat → Int32)) : Array Value → State → Outcome → State → Prop := va_Qv (fun (_ : Unit) => True) (poW D [(k 8, .int), (k 9, .int)] (wW a k r fp) A) A
def J_W_undo_0 (x1 : Int32) (x2 : Int32) (oe : Nat → Int32) : Option ((Nat → Int32)) :=
  (if x2 = 0 then (Option.bind (F_W_part (((4 : Int32) * x1) + (3 : Int32)) ((4 : Int32) * x1) oe) (fun v_2 => (Option.bind (F_W_part (((4 : Int32) * x1) + (1 : Int32)) (((4 : Int32) * x1) + (2 : Int32)) v_2) (fun v_3 => some (v_3))))) else (Option.bind (F_W_part (((4 : Int32) * x1) + (2 : Int32)) (((4 : Int32) * x1) + (3 : Int32)) oe) (fun v_4 => (Option.bind (F_W_part ((4 : Int32) * x1) (((4 : Int32) * x1) + (1 : Int32)) v_4) (fun v_5 => some (v_5))))))
def F_W_undo (x1 : Int32) (x2 : Int32) (oe : Nat → Int32) : Option ((Nat → Int32)) := J_W_undo_0 x1 x2 oe
def H_W_undo_0 (p : Program) (l : Launch) (e : Env) (s : State) (m : MethodId) (args : Array Value) (below : List Frame) (meth : Method) (c : Code) (D : va_G) (A : Nat → Prop) (a : Nat → Nat) (k : Nat → ClassId) (fp : Nat → Int32) (f : Int32 → Int32 → (Nat → Int32) → Option ((Nat → Int32))) : Prop := ∀ (x1 : Int32) (x2 : Int32) (oe : Nat → Int32) (r : (Nat → Int32)), f x1 x2 oe = some r → ∀ (H : Heap) (locs : List Loc) (ls : Array Slot), va_P D classes (wW a k oe fp) H → va_D A (wW a k oe fp) → va_S A s.heap H locs → lv_has ls 4 [(0, .ref (a 7)), (1, .int x1), (2, .int x2)] → W p l e (rm_W_undo) s m args below meth c H locs 0 0 (MQ below (qc_W_undo D A a k fp r) args s 0 0 A) (F0 m 0 ls [])
set_option maxHeartbeats 4000000 in
set_option maxRecDepth 100000 in
theorem k_W_undo_0 {p : Program} {l : Launch} {e : Env} {s : State} {m : MethodId} {args : Array Value} {below : List Frame} {meth : Method} {c : Code} {D : va_G} {A : Nat → Prop} {a : Nat → Nat} {k : Nat → ClassId} {fp : Nat → Int32} (C : cx D [(k 8, .int), (k 9, .int)] R_W b_W_undo 4 none A p s m args meth c) : H_W_undo_0 p l e s m args below meth c D A a k fp (J_W_undo_0) := by
  obtain ⟨hx, hb, hr, hml, hown, ht, hlk, hA, hK⟩ := id C
  intro x1 x2 oe r h H locs ls hP hD hS hl
  unfold J_W_undo_0 at h
  refine lv_iconst (v := 4) hx hb d_W_undo_0 (by decide) ?_
  refine lv_iload_n hx hb d_W_undo_1 rfl (lv_at hl 1 rfl) ?_
  refine lv_imul hx hb d_W_undo_2 ?_
  refine lv_istore_n (lv' := [(3, .int ((4 : Int32) * x1)), (0, .ref (a 7)), (1, .int x1), (2, .int x2)]) hx hb d_W_undo_3 rfl hl (by decide) rfl (fun ls hl => ?_)
  refine lv_iload_n hx hb d_W_undo_4 rfl (lv_at hl 3 rfl) ?_
  refine lv_if_eq (tgt := 29) hx hb d_W_undo_5 (by decide) (fun c_1 => ?_) (fun c_1 => ?_)
  · have h := ite_T c_1 h
    refine lv_aload_n hx hb d_W_undo_29 rfl (lv_at hl 1 rfl) ?_
    refine lv_iload_n hx hb d_W_undo_30 rfl (lv_at hl 0 rfl) ?_
    refine lv_iconst (v := 3) hx hb d_W_undo_31 (by decide) ?_
    refine lv_iadd hx hb d_W_undo_32 ?_
    refine lv_iload_n hx hb d_W_undo_33 rfl (lv_at hl 0 rfl) ?_
    obtain ⟨v_2, e_2, h⟩ := bd_some h
    refine go_Vv (As := [.int (((4 : Int32) * x1) + (3 : Int32)), .int ((4 : Int32) * x1)]) (rest := []) (wc := (wW a k oe fp)) (wr := []) (w1 := (wW a k v_2 fp)) (w2 := (wW a k v_2 fp)) (tc := [(k 8, .int), (k 9, .int)]) hx hb hml hown ht (c_W_part l D a k H.size (((4 : Int32) * x1) + (3 : Int32)) ((4 : Int32) * x1) oe fp v_2 e_2) g_W_28 ⟨rfl, rfl⟩ (n := 2) (by decide +kernel) ⟨(Nat.le_of_ble_eq_true rfl), (Nat.le_of_ble_eq_true rfl)⟩ hP hD hK hS hA ⟨Nat.zero_le _, Nat.zero_le _⟩ [0, 1, 2] [] [0, 1] [0, 1, 2] rfl rfl rfl rfl (by decide) (by decide) (by decide) rfl (by decide) 0 rfl rfl rfl rfl rfl hl.1 (Nat.le_of_ble_eq_true rfl) d_W_undo_34 (fun H locs hP hD hS => ?_)
    refine lv_aload_n hx hb d_W_undo_37 rfl (lv_at hl 1 rfl) ?_
    refine lv_iload_n hx hb d_W_undo_38 rfl (lv_at hl 0 rfl) ?_
    refine lv_iconst (v := 1) hx hb d_W_undo_39 (by decide) ?_
    refine lv_iadd hx hb d_W_undo_40 ?_
    refine lv_iload_n hx hb d_W_undo_41 rfl (lv_at hl 0 rfl) ?_
    refine lv_iconst (v := 2) hx hb d_W_undo_42 (by decide) ?_
    refine lv_iadd hx hb d_W_undo_43 ?_
    obtain ⟨v_3, e_3, h⟩ := bd_some h
    refine go_Vv (As := [.int (((4 : Int32) * x1) + (1 : Int32)), .int (((4 : Int32) * x1) + (2 : Int32))]) (rest := []) (wc := (wW a k v_2 fp)) (wr := []) (w1 := (wW a k v_3 fp)) (w2 := (wW a k v_3 fp)) (tc := [(k 8, .int), (k 9, .int)]) hx hb hml hown ht (c_W_part l D a k H.size (((4 : Int32) * x1) + (1 : Int32)) (((4 : Int32) * x1) + (2 : Int32)) v_2 fp v_3 e_3) g_W_28 ⟨rfl, rfl⟩ (n := 2) (by decide +kernel) ⟨(Nat.le_of_ble_eq_true rfl), (Nat.le_of_ble_eq_true rfl)⟩ hP hD hK hS hA ⟨Nat.zero_le _, Nat.zero_le _⟩ [0, 1, 2] [] [0, 1] [0, 1, 2] rfl rfl rfl rfl (by decide) (by decide) (by decide) rfl (by decide) 0 rfl rfl rfl rfl rfl hl.1 (Nat.le_of_ble_eq_true rfl) d_W_undo_44 (fun H locs hP hD hS => ?_)
    cases h
    exact W.vret hx hb hr (fun t ht hW => ⟨⟨(), rfl, trivial, by rw [ht]; exact hP, va_K.moved hW.alike hK, hD⟩, hS.F ht⟩) hS.2.2 d_W_undo_47 hlk
  · have h := ite_F c_1 h
    refine lv_aload_n hx hb d_W_undo_8 rfl (lv_at hl 1 rfl) ?_
    refine lv_iload_n hx hb d_W_undo_9 rfl (lv_at hl 0 rfl) ?_
    refine lv_iconst (v := 2) hx hb d_W_undo_10 (by decide) ?_
    refine lv_iadd hx hb d_W_undo_11 ?_
    refine lv_iload_n hx hb d_W_undo_12 rfl (lv_at hl 0 rfl) ?_
    refine lv_iconst (v := 3) hx hb d_W_undo_13 (by decide) ?_
    refine lv_iadd hx hb d_W_undo_14 ?_
    obtain ⟨v_4, e_4, h⟩ := bd_some h
    refine go_Vv (As := [.int (((4 : Int32) * x1) + (2 : Int32)), .int (((4 : Int32) * x1) + (3 : Int32))]) (rest := []) (wc := (wW a k oe fp)) (wr := []) (w1 := (wW a k v_4 fp)) (w2 := (wW a k v_4 fp)) (tc := [(k 8, .int), (k 9, .int)]) hx hb hml hown ht (c_W_part l D a k H.size (((4 : Int32) * x1) + (2 : Int32)) (((4 : Int32) * x1) + (3 : Int32)) oe fp v_4 e_4) g_W_28 ⟨rfl, rfl⟩ (n := 2) (by decide +kernel) ⟨(Nat.le_of_ble_eq_true rfl), (Nat.le_of_ble_eq_true rfl)⟩ hP hD hK hS hA ⟨Nat.zero_le _, Nat.zero_le _⟩ [0, 1, 2] [] [0, 1] [0, 1, 2] rfl rfl rfl rfl (by decide) (by decide) (by decide) rfl (by decide) 0 rfl rfl rfl rfl rfl hl.1 (Nat.le_of_ble_eq_true rfl) d_W_undo_15 (fun H locs hP hD hS => ?_)
    refine lv_aload_n hx hb d_W_undo_18 rfl (lv_at hl 1 rfl) ?_
    refine lv_iload_n hx hb d_W_undo_19 rfl (lv_at hl 0 rfl) ?_
    refine lv_iload_n hx hb d_W_undo_20 rfl (lv_at hl 0 rfl) ?_
    refine lv_iconst (v := 1) hx hb d_W_undo_21 (by decide) ?_
    refine lv_iadd hx hb d_W_undo_22 ?_
    obtain ⟨v_5, e_5, h⟩ := bd_some h
    refine go_Vv (As := [.int ((4 : Int32) * x1), .int (((4 : Int32) * x1) + (1 : Int32))]) (rest := []) (wc := (wW a k v_4 fp)) (wr := []) (w1 := (wW a k v_5 fp)) (w2 := (wW a k v_5 fp)) (tc := [(k 8, .int), (k 9, .int)]) hx hb hml hown ht (c_W_part l D a k H.size ((4 : Int32) * x1) (((4 : Int32) * x1) + (1 : Int32)) v_4 fp v_5 e_5) g_W_28 ⟨rfl, rfl⟩ (n := 2) (by decide +kernel) ⟨(Nat.le_of_ble_eq_true rfl), (Nat.le_of_ble_eq_true rfl)⟩ hP hD hK hS hA ⟨Nat.zero_le _, Nat.zero_le _⟩ [0, 1, 2] [] [0, 1] [0, 1, 2] rfl rfl rfl rfl (by decide) (by decide) (by decide) rfl (by decide) 0 rfl rfl rfl rfl rfl hl.1 (Nat.le_of_ble_eq_true rfl) d_W_undo_23 (fun H locs hP hD hS => ?_)
    refine lv_goto (tgt := 47) hx hb d_W_undo_26 (by decide) ?_
    cases h
    exact W.vret hx hb hr (fun t ht hW => ⟨⟨(), rfl, trivial, by rw [ht]; exact hP, va_K.moved hW.alike hK, hD⟩, hS.F ht⟩) hS.2.2 d_W_undo_47 hlk
set_option maxRecDepth 20000 in
theorem c_W_undo (l : Launch) (D : va_G) (a : Nat → Nat) (k : Nat → ClassId) (sz : Nat) (x1 : Int32) (x2 : Int32) (oe : Nat → Int32) (fp : Nat → Int32) (r : (Nat → Int32)) (h : F_W_undo x1 x2 oe = some r) : Met l y_W_undo (Cond.code y_W_undo b_W_undo 4 none :: lw_g) (rm_W_undo) (va_Pc [.ref (a 7), .int x1, .int x2] (pcW D [(k 8, .int), (k 9, .int)] (wW a k oe fp) sz)) (qc_W_undo D (va_A (wW a k oe fp) sz) a k fp r) 0 0 (va_A (wW a k oe fp) sz) := by
  refine Met.ofW (cc := b_W_undo) (maxL := 4) (ret := none) (by decide) rfl ?_
  intro p e s m args below meth c s₁ B hml hv
  obtain ⟨rfl, hsz, hP, hK, hD0⟩ := hv
  have hts := atoms_spec (ws := Cond.code y_W_undo b_W_undo 4 none :: lw_g) B.pre
  subst hsz
  have hD := hD0.self (sz := s.heap.size)
  have hl := lv_entry ([.ref (a 7), .int x1, .int x2]) (n := 4) (Nat.le_of_ble_eq_true rfl)
  rw [lg_entry_eq]
  generalize (lg_sl ([.ref (a 7), .int x1, .int x2]) ++ List.replicate (4 - (lg_sl ([.ref (a 7), .int x1, .int x2])).length) Slot.unset).toArray = ls at hl ⊢
  exact k_W_undo_0 ⟨B.exec, B.bytes, B.returns, hml, findClass_of_methodNamed B.named, fun w hw => hts w (List.mem_cons_of_mem _ hw), B.notSynchronized, fun q h => Or.inr h, hK⟩ _ _ _ _ h _ _ _ hP hD va_S.rf hl

def rm_W_followLabels : Room := { frames := 1, cells := 0, slots := 0, locals := 23 }
def qc_W_followLabels (D : va_G) (A : Nat → Prop) (a : Nat → Nat) (k : Nat → ClassId) (lab : Nat → Int32) (r : (Nat → Int32) × (Nat → Int32)) : Array Value → State → Outcome → State → Prop := va_Qv (fun (_ : Unit) => True) (poW D [(k 8, .int), (k 9, .int), (k 1, .int)] (wL a k r.1 r.2 lab) A) A
def J_W_followLabels_10 (rec10 : Int32 → Int32 → (Nat → Int32) → (Nat → Int32) → (Nat → Int32) → Option ((Nat → Int32) × (Nat → Int32))) (x2 : Int32) (x3 : Int32) (oe : Nat → Int32) (fp : Nat → Int32) (lab : Nat → Int32) : Option ((Nat → Int32) × (Nat → Int32)) :=
  (if x2 ≤ x3 then some (oe, fp) else (if inb x3 40 then (if inb (lab x3.toNatClampNeg) 100 then (if 0 ≤ (fp (lab x3.toNatClampNeg).toNatClampNeg) then (if inb (fp (lab x3.toNatClampNeg).toNatClampNeg) 40 then (if inb x3 40 then rec10 x2 (x3 + 1) (upd (upd oe (fp (lab x3.toNatClampNeg).toNatClampNeg).toNatClampNeg x3) x3.toNatClampNeg (fp (lab x3.toNatClampNeg).toNatClampNeg)) fp lab else none) else none) else (if inb x3 40 then (if inb (lab x3.toNatClampNeg) 100 then rec10 x2 (x3 + 1) oe (upd fp (lab x3.toNatClampNeg).toNatClampNeg x3) lab else none) else none)) else none) else none))
def L_W_followLabels_10 : Nat → Int32 → Int32 → (Nat → Int32) → (Nat → Int32) → (Nat → Int32) → Option ((Nat → Int32) × (Nat → Int32))
  | 0 => fun _ _ _ _ _ => none
  | n + 1 => J_W_followLabels_10 (L_W_followLabels_10 n)
def J_W_followLabels_0 (x2 : Int32) (oe : Nat → Int32) (fp : Nat → Int32) (lab : Nat → Int32) : Option ((Nat → Int32) × (Nat → Int32)) :=
  L_W_followLabels_10 fu x2 (0 : Int32) oe (fun _ => (-1 : Int32)) lab
def F_W_followLabels (x2 : Int32) (oe : Nat → Int32) (fp : Nat → Int32) (lab : Nat → Int32) : Option ((Nat → Int32) × (Nat → Int32)) := J_W_followLabels_0 x2 oe fp lab
def H_W_followLabels_10 (p : Program) (l : Launch) (e : Env) (s : State) (m : MethodId) (args : Array Value) (below : List Frame) (meth : Method) (c : Code) (D : va_G) (A : Nat → Prop) (a : Nat → Nat) (k : Nat → ClassId) (f : Int32 → Int32 → (Nat → Int32) → (Nat → Int32) → (Nat → Int32) → Option ((Nat → Int32) × (Nat → Int32))) : Prop := ∀ (x2 : Int32) (x3 : Int32) (oe : Nat → Int32) (fp : Nat → Int32) (lab : Nat → Int32) (r : (Nat → Int32) × (Nat → Int32)), f x2 x3 oe fp lab = some r → ∀ (H : Heap) (locs : List Loc) (ls : Array Slot), va_P D classes (wL a k oe fp lab) H → va_D A (wL a k oe fp lab) → va_S A s.heap H locs → lv_has ls 5 [(0, .ref (a 7)), (1, .ref (a 1)), (2, .int x2), (3, .int x3)] → W p l e (rm_W_followLabels) s m args below meth c H locs 0 0 (MQ below (qc_W_followLabels D A a k lab r) args s 0 0 A) (F0 m 10 ls [])
def H_W_followLabels_0 (p : Program) (l : Launch) (e : Env) (s : State) (m : MethodId) (args : Array Value) (below : List Frame) (meth : Method) (c : Code) (D : va_G) (A : Nat → Prop) (a : Nat → Nat) (k : Nat → ClassId) (f : Int32 → (Nat → Int32) → (Nat → Int32) → (Nat → Int32) → Option ((Nat → Int32) × (Nat → Int32))) : Prop := ∀ (x2 : Int32) (oe : Nat → Int32) (fp : Nat → Int32) (lab : Nat → Int32) (r : (Nat → Int32) × (Nat → Int32)), f x2 oe fp lab = some r → ∀ (H : Heap) (locs : List Loc) (ls : Array Slot), va_P D classes (wL a k oe fp lab) H → va_D A (wL a k oe fp lab) → va_S A s.heap H locs → lv_has ls 5 [(0, .ref (a 7)), (1, .ref (a 1)), (2, .int x2)] → W p l e (rm_W_followLabels) s m args below meth c H locs 0 0 (MQ below (qc_W_followLabels D A a k lab r) args s 0 0 A) (F0 m 0 ls [])
set_option maxHeartbeats 4000000 in
set_option maxRecDepth 100000 in
theorem k_W_followLabels_10 {p : Program} {l : Launch} {e : Env} {s : State} {m : MethodId} {args : Array Value} {below : List Frame} {meth : Method} {c : Code} {D : va_G} {A : Nat → Prop} {a : Nat → Nat} {k : Nat → ClassId} {rec10 : Int32 → Int32 → (Nat → Int32) → (Nat → Int32) → (Nat → Int32) → Option ((Nat → Int32) × (Nat → Int32))} (C : cx D [(k 8, .int), (k 9, .int), (k 1, .int)] R_W b_W_followLabels 5 none A p s m args meth c) (hrec10 : H_W_followLabels_10 p l e s m args below meth c D A a k rec10) : H_W_followLabels_10 p l e s m args below meth c D A a k (J_W_followLabels_10 rec10) := by
  obtain ⟨hx, hb, hr, hml, hown, ht, hlk, hA, hK⟩ := id C
  intro x2 x3 oe fp lab r h H locs ls hP hD hS hl
  unfold J_W_followLabels_10 at h
  refine lv_iload_n hx hb d_W_followLabels_10 rfl (lv_at hl 3 rfl) ?_
  refine lv_iload_n hx hb d_W_followLabels_11 rfl (lv_at hl 2 rfl) ?_
  refine lv_icmp_ge (tgt := 64) hx hb d_W_followLabels_12 (by decide) (fun c_1 => ?_) (fun c_1 => ?_)
  · have h := ite_T c_1 h
    cases h
    exact W.vret hx hb hr (fun t ht hW => ⟨⟨(), rfl, trivial, by rw [ht]; exact hP, va_K.moved hW.alike hK, hD⟩, hS.F ht⟩) hS.2.2 d_W_followLabels_64 hlk
  · have h := ite_F c_1 h
    refine lv_aload_n hx hb d_W_followLabels_15 rfl (lv_at hl 0 rfl) ?_
    refine va_get (D := D) (ci := 1) (v := .ref (a 9)) (C := R_W) (T := F_W) (N := 2) hx hb ht iC_W hown hK hP 0 rfl rfl 1 (by decide) (ht _ ix_17) (fun _ h9 => h9) rfl d_W_followLabels_16 ?_
    refine lv_aload_n hx hb d_W_followLabels_19 rfl (lv_at hl 1 rfl) ?_
    refine lv_iload_n hx hb d_W_followLabels_20 rfl (lv_at hl 3 rfl) ?_
    obtain ⟨g_2, h⟩ := gd_some h
    refine va_iald hx hb hK hP 3 2 rfl rfl (inb_in g_2) d_W_followLabels_21 ?_
    obtain ⟨g_3, h⟩ := gd_some h
    refine va_iald hx hb hK hP 2 1 rfl rfl (inb_in g_3) d_W_followLabels_22 ?_
    refine lv_istore (lv' := [(4, .int (fp (lab x3.toNatClampNeg).toNatClampNeg)), (0, .ref (a 7)), (1, .ref (a 1)), (2, .int x2), (3, .int x3)]) hx hb d_W_followLabels_23 hl (by decide) rfl (fun ls hl => ?_)
    refine lv_iload hx hb d_W_followLabels_25 (lv_at hl 0 rfl) ?_
    refine lv_if_ge (tgt := 42) hx hb d_W_followLabels_27 (by decide) (fun c_4 => ?_) (fun c_4 => ?_)
    · have h := ite_T c_4 h
      refine lv_aload_n hx hb d_W_followLabels_42 rfl (lv_at hl 1 rfl) ?_
      refine va_get (D := D) (ci := 1) (v := .ref (a 8)) (C := R_W) (T := F_W) (N := 2) hx hb ht iC_W hown hK hP 0 rfl rfl 0 (by decide) (ht _ ix_7) (fun _ h9 => h9) rfl d_W_followLabels_43 ?_
      refine lv_iload hx hb d_W_followLabels_46 (lv_at hl 0 rfl) ?_
      refine lv_iload_n hx hb d_W_followLabels_48 rfl (lv_at hl 4 rfl) ?_
      obtain ⟨g_5, h⟩ := gd_some h
      refine va_iast hx hb hK hP hD hS 1 0 rfl rfl (inb_in g_5) d_W_followLabels_49 (fun H locs hP hD hS => ?_)
      have hP : va_P D classes (wL a k (upd oe (fp (lab x3.toNatClampNeg).toNatClampNeg).toNatClampNeg x3) fp lab) H := hP
      have hD : va_D A (wL a k (upd oe (fp (lab x3.toNatClampNeg).toNatClampNeg).toNatClampNeg x3) fp lab) := hD
      refine lv_aload_n hx hb d_W_followLabels_50 rfl (lv_at hl 1 rfl) ?_
      refine va_get (D := D) (ci := 1) (v := .ref (a 8)) (C := R_W) (T := F_W) (N := 2) hx hb ht iC_W hown hK hP 0 rfl rfl 0 (by decide) (ht _ ix_7) (fun _ h9 => h9) rfl d_W_followLabels_51 ?_
      refine lv_iload_n hx hb d_W_followLabels_54 rfl (lv_at hl 4 rfl) ?_
      refine lv_iload hx hb d_W_followLabels_55 (lv_at hl 0 rfl) ?_
      obtain ⟨g_6, h⟩ := gd_some h
      refine va_iast hx hb hK hP hD hS 1 0 rfl rfl (inb_in g_6) d_W_followLabels_57 (fun H locs hP hD hS => ?_)
      have hP : va_P D classes (wL a k (upd (upd oe (fp (lab x3.toNatClampNeg).toNatClampNeg).toNatClampNeg x3) x3.toNatClampNeg (fp (lab x3.toNatClampNeg).toNatClampNeg)) fp lab) H := hP
      have hD : va_D A (wL a k (upd (upd oe (fp (lab x3.toNatClampNeg).toNatClampNeg).toNatClampNeg x3) x3.toNatClampNeg (fp (lab x3.toNatClampNeg).toNatClampNeg)) fp lab) := hD
      refine lv_iinc (v := x3 + 1) (lv' := [(3, .int (x3 + 1)), (4, .int (fp (lab x3.toNatClampNeg).toNatClampNeg)), (0, .ref (a 7)), (1, .ref (a 1)), (2, .int x2)]) hx hb d_W_followLabels_58 hl (k := 4) rfl rfl (by decide) rfl (fun ls hl => ?_)
      refine lv_goto (tgt := 10) hx hb d_W_followLabels_61 (by decide) ?_
      exact hrec10 _ _ _ _ _ _ h _ _ _ hP hD hS (lv_sub hl [2, 3, 4, 0] rfl)
    · have h := ite_F c_4 h
      refine lv_aload_n hx hb d_W_followLabels_30 rfl (lv_at hl 1 rfl) ?_
      refine va_get (D := D) (ci := 1) (v := .ref (a 9)) (C := R_W) (T := F_W) (N := 2) hx hb ht iC_W hown hK hP 0 rfl rfl 1 (by decide) (ht _ ix_17) (fun _ h9 => h9) rfl d_W_followLabels_31 ?_
      refine lv_aload_n hx hb d_W_followLabels_34 rfl (lv_at hl 2 rfl) ?_
      refine lv_iload_n hx hb d_W_followLabels_35 rfl (lv_at hl 4 rfl) ?_
      obtain ⟨g_7, h⟩ := gd_some h
      refine va_iald hx hb hK hP 3 2 rfl rfl (inb_in g_7) d_W_followLabels_36 ?_
      refine lv_iload_n hx hb d_W_followLabels_37 rfl (lv_at hl 4 rfl) ?_
      obtain ⟨g_8, h⟩ := gd_some h
      refine va_iast hx hb hK hP hD hS 2 1 rfl rfl (inb_in g_8) d_W_followLabels_38 (fun H locs hP hD hS => ?_)
      have hP : va_P D classes (wL a k oe (upd fp (lab x3.toNatClampNeg).toNatClampNeg x3) lab) H := hP
      have hD : va_D A (wL a k oe (upd fp (lab x3.toNatClampNeg).toNatClampNeg x3) lab) := hD
      refine lv_goto (tgt := 58) hx hb d_W_followLabels_39 (by decide) ?_
      refine lv_iinc (v := x3 + 1) (lv' := [(3, .int (x3 + 1)), (4, .int (fp (lab x3.toNatClampNeg).toNatClampNeg)), (0, .ref (a 7)), (1, .ref (a 1)), (2, .int x2)]) hx hb d_W_followLabels_58 hl (k := 4) rfl rfl (by decide) rfl (fun ls hl => ?_)
      refine lv_goto (tgt := 10) hx hb d_W_followLabels_61 (by decide) ?_
      exact hrec10 _ _ _ _ _ _ h _ _ _ hP hD hS (lv_sub hl [2, 3, 4, 0] rfl)
theorem k_W_followLabels_10_L {p : Program} {l : Launch} {e : Env} {s : State} {m : MethodId} {args : Array Value} {below : List Frame} {meth : Method} {c : Code} {D : va_G} {A : Nat → Prop} {a : Nat → Nat} {k : Nat → ClassId} (C : cx D [(k 8, .int), (k 9, .int), (k 1, .int)] R_W b_W_followLabels 5 none A p s m args meth c) : ∀ n : Nat, H_W_followLabels_10 p l e s m args below meth c D A a k (L_W_followLabels_10 n)
  | 0 => fun _ _ _ _ _ _ h => nomatch h
  | n + 1 => k_W_followLabels_10 C (k_W_followLabels_10_L C n)
set_option maxHeartbeats 4000000 in
set_option maxRecDepth 100000 in
theorem k_W_followLabels_0 {p : Program} {l : Launch} {e : Env} {s : State} {m : MethodId} {args : Array Value} {below : List Frame} {meth : Method} {c : Code} {D : va_G} {A : Nat → Prop} {a : Nat → Nat} {k : Nat → ClassId} (C : cx D [(k 8, .int), (k 9, .int), (k 1, .int)] R_W b_W_followLabels 5 none A p s m args meth c) : H_W_followLabels_0 p l e s m args below meth c D A a k (J_W_followLabels_0) := by
  obtain ⟨hx, hb, hr, hml, hown, ht, hlk, hA, hK⟩ := id C
  intro x2 oe fp lab r h H locs ls hP hD hS hl
  unfold J_W_followLabels_0 at h
  refine lv_aload_n hx hb d_W_followLabels_0 rfl (lv_at hl 0 rfl) ?_
  refine va_get (D := D) (ci := 1) (v := .ref (a 9)) (C := R_W) (T := F_W) (N := 2) hx hb ht iC_W hown hK hP 0 rfl rfl 1 (by decide) (ht _ ix_17) (fun _ h9 => h9) rfl d_W_followLabels_1 ?_
  refine lv_iconst (v := (-1)) hx hb d_W_followLabels_4 (by decide) ?_
  refine go_Sv (As := [.ref (a 9), .int (-1 : Int32)]) (rest := []) (wc := [((a 9), .inl (k 9, 100, .inl fp))]) (wr := [((a 7), .inr (1, [.ref (a 8), .ref (a 9)])), ((a 8), .inl (k 8, 40, .inl oe)), ((a 1), .inl (k 1, 40, .inl lab))]) (w1 := [((a 9), .inl (k 9, 100, .inl (fun _ => (-1 : Int32))))]) (w2 := (wL a k oe (fun _ => (-1 : Int32)) lab)) (tc := [(k 9, .int)]) hx hb hml hown ht (c_fillI l D (a 9) (k 9) 100 H.size fp (-1 : Int32) (by decide)) g_W_18 ⟨rfl, rfl⟩ (n := 2) (by decide +kernel) ⟨(Nat.le_of_ble_eq_true rfl), (Nat.le_of_ble_eq_true rfl)⟩ hP hD hK hS hA ⟨Nat.zero_le _, Nat.zero_le _⟩ [2] [0, 1, 3] [1] [0, 1, 3, 2] rfl rfl rfl rfl (by decide) (by decide) (by decide) rfl (by decide) rfl rfl hl.1 (Nat.le_of_ble_eq_true rfl) d_W_followLabels_5 (fun H locs hP hD hS => ?_)
  refine lv_iconst (v := 0) hx hb d_W_followLabels_8 (by decide) ?_
  refine lv_istore_n (lv' := [(3, .int (0 : Int32)), (0, .ref (a 7)), (1, .ref (a 1)), (2, .int x2)]) hx hb d_W_followLabels_9 rfl hl (by decide) rfl (fun ls hl => ?_)
  exact (k_W_followLabels_10_L C fu) _ _ _ _ _ _ h _ _ _ hP hD hS (lv_sub hl [1, 2, 3, 0] rfl)
set_option maxRecDepth 20000 in
theorem c_W_followLabels (l : Launch) (D : va_G) (a : Nat → Nat) (k : Nat → ClassId) (sz : Nat) (x2 : Int32) (oe : Nat → Int32) (fp : Nat → Int32) (lab : Nat → Int32) (r : (Nat → Int32) × (Nat → Int32)) (h : F_W_followLabels x2 oe fp lab = some r) : Met l y_W_followLabels (Cond.code y_W_followLabels b_W_followLabels 5 none :: lw_g) (rm_W_followLabels) (va_Pc [.ref (a 7), .ref (a 1), .int x2] (pcW D [(k 8, .int), (k 9, .int), (k 1, .int)] (wL a k oe fp lab) sz)) (qc_W_followLabels D (va_A (wL a k oe fp lab) sz) a k lab r) 0 0 (va_A (wL a k oe fp lab) sz) := by
  refine Met.ofW (cc := b_W_followLabels) (maxL := 5) (ret := none) (by decide) rfl ?_
  intro p e s m args below meth c s₁ B hml hv
  obtain ⟨rfl, hsz, hP, hK, hD0⟩ := hv
  have hts := atoms_spec (ws := Cond.code y_W_followLabels b_W_followLabels 5 none :: lw_g) B.pre
  subst hsz
  have hD := hD0.self (sz := s.heap.size)
  have hl := lv_entry ([.ref (a 7), .ref (a 1), .int x2]) (n := 5) (Nat.le_of_ble_eq_true rfl)
  rw [lg_entry_eq]
  generalize (lg_sl ([.ref (a 7), .ref (a 1), .int x2]) ++ List.replicate (5 - (lg_sl ([.ref (a 7), .ref (a 1), .int x2])).length) Slot.unset).toArray = ls at hl ⊢
  exact k_W_followLabels_0 ⟨B.exec, B.bytes, B.returns, hml, findClass_of_methodNamed B.named, fun w hw => hts w (List.mem_cons_of_mem _ hw), B.notSynchronized, fun q h => Or.inr h, hK⟩ _ _ _ _ _ h _ _ _ hP hD va_S.rf hl

def rm_P_setZero : Room := { frames := 1, cells := 0, slots := 0, locals := 24 }
def qc_P_setZero (D : va_G) (A : Nat → Prop) (a : Nat → Nat) (k : Nat → ClassId) (sp : Nat → Int64) (qr : Nat) (qs : Nat) (r : (Nat → Int64)) : Array Value → State → Outcome → State → Prop := va_Qv (fun (_ : Unit) => True) (poW D [(k 11, .long)] (wP a k r sp qr qs) A) A
def J_P_setZero_0 (ro : Nat → Int64) : Option ((Nat → Int64)) :=
  some ((fun _ => (0 : Int64)))
def F_P_setZero (ro : Nat → Int64) : Option ((Nat → Int64)) := J_P_setZero_0 ro
def H_P_setZero_0 (p : Program) (l : Launch) (e : Env) (s : State) (m : MethodId) (args : Array Value) (below : List Frame) (meth : Method) (c : Code) (D : va_G) (A : Nat → Prop) (a : Nat → Nat) (k : Nat → ClassId) (sp : Nat → Int64) (qr : Nat) (qs : Nat) (f : (Nat → Int64) → Option ((Nat → Int64))) : Prop := ∀ (ro : Nat → Int64) (r : (Nat → Int64)), f ro = some r → ∀ (H : Heap) (locs : List Loc) (ls : Array Slot), va_P D classes (wP a k ro sp qr qs) H → va_D A (wP a k ro sp qr qs) → va_S A s.heap H locs → lv_has ls 1 [(0, .ref (a 10))] → W p l e (rm_P_setZero) s m args below meth c H locs 0 0 (MQ below (qc_P_setZero D A a k sp qr qs r) args s 0 0 A) (F0 m 0 ls [])
set_option maxHeartbeats 4000000 in
set_option maxRecDepth 100000 in
theorem k_P_setZero_0 {p : Program} {l : Launch} {e : Env} {s : State} {m : MethodId} {args : Array Value} {below : List Frame} {meth : Method} {c : Code} {D : va_G} {A : Nat → Prop} {a : Nat → Nat} {k : Nat → ClassId} {sp : Nat → Int64} {qr : Nat} {qs : Nat} (C : cx D [(k 11, .long)] R_P b_P_setZero 1 none A p s m args meth c) : H_P_setZero_0 p l e s m args below meth c D A a k sp qr qs (J_P_setZero_0) := by
  obtain ⟨hx, hb, hr, hml, hown, ht, hlk, hA, hK⟩ := id C
  intro ro r h H locs ls hP hD hS hl
  unfold J_P_setZero_0 at h
  refine lv_aload_n hx hb d_P_setZero_0 rfl (lv_at hl 0 rfl) ?_
  refine va_get (D := D) (ci := 2) (v := .ref qr) (C := R_P) (T := F_P) (N := 2) hx hb ht iC_P hown hK hP 0 rfl rfl 0 (by decide) (ht _ ix_22) (fun _ h9 => h9) rfl d_P_setZero_1 ?_
  refine lv_lconst (v := 0) hx hb d_P_setZero_4 (by decide) ?_
  refine go_Sv (As := [.ref qr, .long (0 : Int64)]) (rest := []) (wc := [(qr, .inl (k 11, 133, .inr (.inl ro)))]) (wr := [((a 10), .inr (2, [.ref qr, .ref qs])), (qs, .inl (k 11, 133, .inr (.inl sp)))]) (w1 := [(qr, .inl (k 11, 133, .inr (.inl (fun _ => (0 : Int64)))))]) (w2 := (wP a k (fun _ => (0 : Int64)) sp qr qs)) (tc := [(k 11, .long)]) hx hb hml hown ht (c_fillJ l D qr (k 11) 133 H.size ro (0 : Int64) (by decide)) g_P_18 ⟨rfl, rfl⟩ (n := 2) (by decide +kernel) ⟨(Nat.le_of_ble_eq_true rfl), (Nat.le_of_ble_eq_true rfl)⟩ hP hD hK hS hA ⟨Nat.zero_le _, Nat.zero_le _⟩ [1] [0, 2] [0] [0, 2, 1] rfl rfl rfl rfl (by decide) (by decide) (by decide) rfl (by decide) rfl rfl hl.1 (Nat.le_of_ble_eq_true rfl) d_P_setZero_5 (fun H locs hP hD hS => ?_)
  cases h
  exact W.vret hx hb hr (fun t ht hW => ⟨⟨(), rfl, trivial, by rw [ht]; exact hP, va_K.moved hW.alike hK, hD⟩, hS.F ht⟩) hS.2.2 d_P_setZero_8 hlk
set_option maxRecDepth 20000 in
theorem c_P_setZero (l : Launch) (D : va_G) (a : Nat → Nat) (k : Nat → ClassId) (sz : Nat) (ro : Nat → Int64) (sp : Nat → Int64) (qr : Nat) (qs : Nat) (r : (Nat → Int64)) (h : F_P_setZero ro = some r) : Met l y_P_setZero (Cond.code y_P_setZero b_P_setZero 1 none :: lw_g) (rm_P_setZero) (va_Pc [.ref (a 10)] (pcW D [(k 11, .long)] (wP a k ro sp qr qs) sz)) (qc_P_setZero D (va_A (wP a k ro sp qr qs) sz) a k sp qr qs r) 0 0 (va_A (wP a k ro sp qr qs) sz) := by
  refine Met.ofW (cc := b_P_setZero) (maxL := 1) (ret := none) (by decide) rfl ?_
  intro p e s m args below meth c s₁ B hml hv
  obtain ⟨rfl, hsz, hP, hK, hD0⟩ := hv
  have hts := atoms_spec (ws := Cond.code y_P_setZero b_P_setZero 1 none :: lw_g) B.pre
  subst hsz
  have hD := hD0.self (sz := s.heap.size)
  have hl := lv_entry ([.ref (a 10)]) (n := 1) (Nat.le_of_ble_eq_true rfl)
  rw [lg_entry_eq]
  generalize (lg_sl ([.ref (a 10)]) ++ List.replicate (1 - (lg_sl ([.ref (a 10)])).length) Slot.unset).toArray = ls at hl ⊢
  exact k_P_setZero_0 ⟨B.exec, B.bytes, B.returns, hml, findClass_of_methodNamed B.named, fun w hw => hts w (List.mem_cons_of_mem _ hw), B.notSynchronized, fun q h => Or.inr h, hK⟩ _ _ h _ _ _ hP hD va_S.rf hl

def rm_P_at : Room := { frames := 0, cells := 0, slots := 0, locals := 0 }
def qc_P_at (D : va_G) (A : Nat → Prop) (a : Nat → Nat) (k : Nat → ClassId) (ro : Nat → Int64) (sp : Nat → Int64) (qr : Nat) (qs : Nat) (r : Int64) : Array Value → State → Outcome → State → Prop := va_Ql (fun (r1 : Int64) (_ : Unit) => r1 = r) (poW D [(k 11, .long)] (wP a k ro sp qr qs) A) A
def J_P_at_0 (x1 : Int64) (ro : Nat → Int64) : Option (Int64) :=
  (if (lg_cmp x1 (-66 : Int64)) < 0 then some ((0 : Int64)) else (if (lg_cmp x1 (66 : Int64)) ≤ 0 then (if inb (((x1).toInt32) + (66 : Int32)) 133 then some ((ro (((x1).toInt32) + (66 : Int32)).toNatClampNeg)) else none) else some ((0 : Int64))))
def F_P_at (x1 : Int64) (ro : Nat → Int64) : Option (Int64) := J_P_at_0 x1 ro
def H_P_at_0 (p : Program) (l : Launch) (e : Env) (s : State) (m : MethodId) (args : Array Value) (below : List Frame) (meth : Method) (c : Code) (D : va_G) (A : Nat → Prop) (a : Nat → Nat) (k : Nat → ClassId) (sp : Nat → Int64) (qr : Nat) (qs : Nat) (f : Int64 → (Nat → Int64) → Option (Int64)) : Prop := ∀ (x1 : Int64) (ro : Nat → Int64) (r : Int64), f x1 ro = some r → ∀ (H : Heap) (locs : List Loc) (ls : Array Slot), va_P D classes (wP a k ro sp qr qs) H → va_D A (wP a k ro sp qr qs) → va_S A s.heap H locs → lv_has ls 3 [(0, .ref (a 10)), (1, .long x1)] → W p l e (rm_P_at) s m args below meth c H locs 0 0 (MQ below (qc_P_at D A a k ro sp qr qs r) args s 0 0 A) (F0 m 0 ls [])
set_option maxHeartbeats 4000000 in
set_option maxRecDepth 100000 in
theorem k_P_at_0 {p : Program} {l : Launch} {e : Env} {s : State} {m : MethodId} {args : Array Value} {below : List Frame} {meth : Method} {c : Code} {D : va_G} {A : Nat → Prop} {a : Nat → Nat} {k : Nat → ClassId} {sp : Nat → Int64} {qr : Nat} {qs : Nat} (C : cx D [(k 11, .long)] R_P b_P_at 3 (some .long) A p s m args meth c) : H_P_at_0 p l e s m args below meth c D A a k sp qr qs (J_P_at_0) := by
  obtain ⟨hx, hb, hr, hml, hown, ht, hlk, hA, hK⟩ := id C
  intro x1 ro r h H locs ls hP hD hS hl
  unfold J_P_at_0 at h
  refine lv_lload_n hx hb d_P_at_0 rfl (lv_at hl 1 rfl) ?_
  refine lv_ldc2 (v := (-66)) hx hb hown (ht _ ix_26) d_P_at_1 ?_
  refine W.lcmp hx hb d_P_at_4 ?_
  refine lv_if_lt (tgt := 16) hx hb d_P_at_5 (by decide) (fun c_1 => ?_) (fun c_1 => ?_)
  · have h := ite_T c_1 h
    refine lv_lconst (v := 0) hx hb d_P_at_16 (by decide) ?_
    refine lv_goto (tgt := 30) hx hb d_P_at_17 (by decide) ?_
    cases h
    exact W.lret hx hb hr (fun t ht hW => ⟨⟨_, (), rfl, rfl, by rw [ht]; exact hP, va_K.moved hW.alike hK, hD⟩, hS.F ht⟩) hS.2.2 d_P_at_30 hlk
  · have h := ite_F c_1 h
    refine lv_lload_n hx hb d_P_at_8 rfl (lv_at hl 1 rfl) ?_
    refine lv_ldc2 (v := (66)) hx hb hown (ht _ ix_27) d_P_at_9 ?_
    refine W.lcmp hx hb d_P_at_12 ?_
    refine lv_if_le (tgt := 20) hx hb d_P_at_13 (by decide) (fun c_2 => ?_) (fun c_2 => ?_)
    · have h := ite_T c_2 h
      refine lv_aload_n hx hb d_P_at_20 rfl (lv_at hl 0 rfl) ?_
      refine va_get (D := D) (ci := 2) (v := .ref qr) (C := R_P) (T := F_P) (N := 2) hx hb ht iC_P hown hK hP 0 rfl rfl 0 (by decide) (ht _ ix_22) (fun _ h9 => h9) rfl d_P_at_21 ?_
      refine lv_lload_n hx hb d_P_at_24 rfl (lv_at hl 1 rfl) ?_
      refine lv_l2i (v := (x1).toInt32) hx hb d_P_at_25 rfl ?_
      refine lv_bipush (v := 66) hx hb d_P_at_26 (by decide) ?_
      refine lv_iadd hx hb d_P_at_28 ?_
      obtain ⟨g_3, h⟩ := gd_some h
      refine va_lald hx hb hK hP 1 0 rfl rfl (inb_in g_3) d_P_at_29 ?_
      cases h
      exact W.lret hx hb hr (fun t ht hW => ⟨⟨_, (), rfl, rfl, by rw [ht]; exact hP, va_K.moved hW.alike hK, hD⟩, hS.F ht⟩) hS.2.2 d_P_at_30 hlk
    · have h := ite_F c_2 h
      refine lv_lconst (v := 0) hx hb d_P_at_16 (by decide) ?_
      refine lv_goto (tgt := 30) hx hb d_P_at_17 (by decide) ?_
      cases h
      exact W.lret hx hb hr (fun t ht hW => ⟨⟨_, (), rfl, rfl, by rw [ht]; exact hP, va_K.moved hW.alike hK, hD⟩, hS.F ht⟩) hS.2.2 d_P_at_30 hlk
set_option maxRecDepth 20000 in
theorem c_P_at (l : Launch) (D : va_G) (a : Nat → Nat) (k : Nat → ClassId) (sz : Nat) (x1 : Int64) (ro : Nat → Int64) (sp : Nat → Int64) (qr : Nat) (qs : Nat) (r : Int64) (h : F_P_at x1 ro = some r) : Met l y_P_at (Cond.code y_P_at b_P_at 3 (some .long) :: lw_g) (rm_P_at) (va_Pc [.ref (a 10), .long x1] (pcW D [(k 11, .long)] (wP a k ro sp qr qs) sz)) (qc_P_at D (va_A (wP a k ro sp qr qs) sz) a k ro sp qr qs r) 0 0 (va_A (wP a k ro sp qr qs) sz) := by
  refine Met.ofW (cc := b_P_at) (maxL := 3) (ret := (some .long)) (by decide) rfl ?_
  intro p e s m args below meth c s₁ B hml hv
  obtain ⟨rfl, hsz, hP, hK, hD0⟩ := hv
  have hts := atoms_spec (ws := Cond.code y_P_at b_P_at 3 (some .long) :: lw_g) B.pre
  subst hsz
  have hD := hD0.self (sz := s.heap.size)
  have hl := lv_entry ([.ref (a 10), .long x1]) (n := 3) (Nat.le_of_ble_eq_true rfl)
  rw [lg_entry_eq]
  generalize (lg_sl ([.ref (a 10), .long x1]) ++ List.replicate (3 - (lg_sl ([.ref (a 10), .long x1])).length) Slot.unset).toArray = ls at hl ⊢
  exact k_P_at_0 ⟨B.exec, B.bytes, B.returns, hml, findClass_of_methodNamed B.named, fun w hw => hts w (List.mem_cons_of_mem _ hw), B.notSynchronized, fun q h => Or.inr h, hK⟩ _ _ _ h _ _ _ hP hD va_S.rf hl

def rm_P_add : Room := { frames := 0, cells := 0, slots := 0, locals := 0 }
def qc_P_add (D : va_G) (A : Nat → Prop) (a : Nat → Nat) (k : Nat → ClassId) (sp : Nat → Int64) (qr : Nat) (qs : Nat) (r : (Nat → Int64)) : Array Value → State → Outcome → State → Prop := va_Qv (fun (_ : Unit) => True) (poW D [(k 11, .long)] (wP a k r sp qr qs) A) A
def J_P_add_0 (x1 : Int32) (x2 : Int64) (ro : Nat → Int64) : Option ((Nat → Int64)) :=
  (if x1 < (-66 : Int32) then some (ro) else (if (66 : Int32) < x1 then some (ro) else (if inb (x1 + (66 : Int32)) 133 then (if inb (x1 + (66 : Int32)) 133 then some ((vp_updL ro (x1 + (66 : Int32)).toNatClampNeg ((ro (x1 + (66 : Int32)).toNatClampNeg) + x2))) else none) else none)))
def F_P_add (x1 : Int32) (x2 : Int64) (ro : Nat → Int64) : Option ((Nat → Int64)) := J_P_add_0 x1 x2 ro
def H_P_add_0 (p : Program) (l : Launch) (e : Env) (s : State) (m : MethodId) (args : Array Value) (below : List Frame) (meth : Method) (c : Code) (D : va_G) (A : Nat → Prop) (a : Nat → Nat) (k : Nat → ClassId) (sp : Nat → Int64) (qr : Nat) (qs : Nat) (f : Int32 → Int64 → (Nat → Int64) → Option ((Nat → Int64))) : Prop := ∀ (x1 : Int32) (x2 : Int64) (ro : Nat → Int64) (r : (Nat → Int64)), f x1 x2 ro = some r → ∀ (H : Heap) (locs : List Loc) (ls : Array Slot), va_P D classes (wP a k ro sp qr qs) H → va_D A (wP a k ro sp qr qs) → va_S A s.heap H locs → lv_has ls 4 [(0, .ref (a 10)), (1, .int x1), (2, .long x2)] → W p l e (rm_P_add) s m args below meth c H locs 0 0 (MQ below (qc_P_add D A a k sp qr qs r) args s 0 0 A) (F0 m 0 ls [])
set_option maxHeartbeats 4000000 in
set_option maxRecDepth 100000 in
theorem k_P_add_0 {p : Program} {l : Launch} {e : Env} {s : State} {m : MethodId} {args : Array Value} {below : List Frame} {meth : Method} {c : Code} {D : va_G} {A : Nat → Prop} {a : Nat → Nat} {k : Nat → ClassId} {sp : Nat → Int64} {qr : Nat} {qs : Nat} (C : cx D [(k 11, .long)] R_P b_P_add 4 none A p s m args meth c) : H_P_add_0 p l e s m args below meth c D A a k sp qr qs (J_P_add_0) := by
  obtain ⟨hx, hb, hr, hml, hown, ht, hlk, hA, hK⟩ := id C
  intro x1 x2 ro r h H locs ls hP hD hS hl
  unfold J_P_add_0 at h
  refine lv_iload_n hx hb d_P_add_0 rfl (lv_at hl 1 rfl) ?_
  refine lv_bipush (v := (-66)) hx hb d_P_add_1 (by decide) ?_
  refine lv_icmp_lt (tgt := 25) hx hb d_P_add_3 (by decide) (fun c_1 => ?_) (fun c_1 => ?_)
  · have h := ite_T c_1 h
    cases h
    exact W.vret hx hb hr (fun t ht hW => ⟨⟨(), rfl, trivial, by rw [ht]; exact hP, va_K.moved hW.alike hK, hD⟩, hS.F ht⟩) hS.2.2 d_P_add_25 hlk
  · have h := ite_F c_1 h
    refine lv_iload_n hx hb d_P_add_6 rfl (lv_at hl 1 rfl) ?_
    refine lv_bipush (v := 66) hx hb d_P_add_7 (by decide) ?_
    refine lv_icmp_gt (tgt := 25) hx hb d_P_add_9 (by decide) (fun c_2 => ?_) (fun c_2 => ?_)
    · have h := ite_T c_2 h
      cases h
      exact W.vret hx hb hr (fun t ht hW => ⟨⟨(), rfl, trivial, by rw [ht]; exact hP, va_K.moved hW.alike hK, hD⟩, hS.F ht⟩) hS.2.2 d_P_add_25 hlk
    · have h := ite_F c_2 h
      refine lv_aload_n hx hb d_P_add_12 rfl (lv_at hl 0 rfl) ?_
      refine va_get (D := D) (ci := 2) (v := .ref qr) (C := R_P) (T := F_P) (N := 2) hx hb ht iC_P hown hK hP 0 rfl rfl 0 (by decide) (ht _ ix_22) (fun _ h9 => h9) rfl d_P_add_13 ?_
      refine lv_iload_n hx hb d_P_add_16 rfl (lv_at hl 1 rfl) ?_
      refine lv_bipush (v := 66) hx hb d_P_add_17 (by decide) ?_
      refine lv_iadd hx hb d_P_add_19 ?_
      refine lv_dup2_11 hx hb d_P_add_20 rfl rfl ?_
      obtain ⟨g_3, h⟩ := gd_some h
      refine va_lald hx hb hK hP 1 0 rfl rfl (inb_in g_3) d_P_add_21 ?_
      refine lv_lload_n hx hb d_P_add_22 rfl (lv_at hl 2 rfl) ?_
      refine lv_ladd hx hb d_P_add_23 ?_
      obtain ⟨g_4, h⟩ := gd_some h
      refine va_last hx hb hK hP hD hS 1 0 rfl rfl (inb_in g_4) d_P_add_24 (fun H locs hP hD hS => ?_)
      have hP : va_P D classes (wP a k (vp_updL ro (x1 + (66 : Int32)).toNatClampNeg ((ro (x1 + (66 : Int32)).toNatClampNeg) + x2)) sp qr qs) H := hP
      have hD : va_D A (wP a k (vp_updL ro (x1 + (66 : Int32)).toNatClampNeg ((ro (x1 + (66 : Int32)).toNatClampNeg) + x2)) sp qr qs) := hD
      cases h
      exact W.vret hx hb hr (fun t ht hW => ⟨⟨(), rfl, trivial, by rw [ht]; exact hP, va_K.moved hW.alike hK, hD⟩, hS.F ht⟩) hS.2.2 d_P_add_25 hlk
set_option maxRecDepth 20000 in
theorem c_P_add (l : Launch) (D : va_G) (a : Nat → Nat) (k : Nat → ClassId) (sz : Nat) (x1 : Int32) (x2 : Int64) (ro : Nat → Int64) (sp : Nat → Int64) (qr : Nat) (qs : Nat) (r : (Nat → Int64)) (h : F_P_add x1 x2 ro = some r) : Met l y_P_add (Cond.code y_P_add b_P_add 4 none :: lw_g) (rm_P_add) (va_Pc [.ref (a 10), .int x1, .long x2] (pcW D [(k 11, .long)] (wP a k ro sp qr qs) sz)) (qc_P_add D (va_A (wP a k ro sp qr qs) sz) a k sp qr qs r) 0 0 (va_A (wP a k ro sp qr qs) sz) := by
  refine Met.ofW (cc := b_P_add) (maxL := 4) (ret := none) (by decide) rfl ?_
  intro p e s m args below meth c s₁ B hml hv
  obtain ⟨rfl, hsz, hP, hK, hD0⟩ := hv
  have hts := atoms_spec (ws := Cond.code y_P_add b_P_add 4 none :: lw_g) B.pre
  subst hsz
  have hD := hD0.self (sz := s.heap.size)
  have hl := lv_entry ([.ref (a 10), .int x1, .long x2]) (n := 4) (Nat.le_of_ble_eq_true rfl)
  rw [lg_entry_eq]
  generalize (lg_sl ([.ref (a 10), .int x1, .long x2]) ++ List.replicate (4 - (lg_sl ([.ref (a 10), .int x1, .long x2])).length) Slot.unset).toArray = ls at hl ⊢
  exact k_P_add_0 ⟨B.exec, B.bytes, B.returns, hml, findClass_of_methodNamed B.named, fun w hw => hts w (List.mem_cons_of_mem _ hw), B.notSynchronized, fun q h => Or.inr h, hK⟩ _ _ _ _ h _ _ _ hP hD va_S.rf hl

def rm_P_timesD : Room := { frames := 1, cells := 0, slots := 0, locals := 22 }
def qc_P_timesD (D : va_G) (A : Nat → Prop) (a : Nat → Nat) (k : Nat → ClassId) (r : (Nat → Int64) × (Nat → Int64) × Nat × Nat) : Array Value → State → Outcome → State → Prop := va_Qv (fun (_ : Unit) => True) (poW D [(k 11, .long)] (wP a k r.1 r.2.1 r.2.2.1 r.2.2.2) A) A
def J_P_timesD_3 (rec3 : Int32 → (Nat → Int64) → (Nat → Int64) → Nat → Nat → Option ((Nat → Int64) × (Nat → Int64) × Nat × Nat)) (x1 : Int32) (ro : Nat → Int64) (sp : Nat → Int64) (qr : Nat) (qs : Nat) : Option ((Nat → Int64) × (Nat → Int64) × Nat × Nat) :=
  (if (66 : Int32) < x1 then some (sp, ro, qs, qr) else (Option.bind (F_P_at (((x1 - (2 : Int32))).toInt64) ro) (fun v_2 => (Option.bind (F_P_at (((x1 + (2 : Int32))).toInt64) ro) (fun v_3 => (if inb (x1 + (66 : Int32)) 133 then rec3 (x1 + 1) ro (vp_updL sp (x1 + (66 : Int32)).toNatClampNeg ((-v_2) - v_3)) qr qs else none))))))
def L_P_timesD_3 : Nat → Int32 → (Nat → Int64) → (Nat → Int64) → Nat → Nat → Option ((Nat → Int64) × (Nat → Int64) × Nat × Nat)
  | 0 => fun _ _ _ _ _ => none
  | n + 1 => J_P_timesD_3 (L_P_timesD_3 n)
def J_P_timesD_0 (ro : Nat → Int64) (sp : Nat → Int64) (qr : Nat) (qs : Nat) : Option ((Nat → Int64) × (Nat → Int64) × Nat × Nat) :=
  L_P_timesD_3 fu (-66 : Int32) ro sp qr qs
def F_P_timesD (ro : Nat → Int64) (sp : Nat → Int64) (qr : Nat) (qs : Nat) : Option ((Nat → Int64) × (Nat → Int64) × Nat × Nat) := J_P_timesD_0 ro sp qr qs
def H_P_timesD_3 (p : Program) (l : Launch) (e : Env) (s : State) (m : MethodId) (args : Array Value) (below : List Frame) (meth : Method) (c : Code) (D : va_G) (A : Nat → Prop) (a : Nat → Nat) (k : Nat → ClassId) (f : Int32 → (Nat → Int64) → (Nat → Int64) → Nat → Nat → Option ((Nat → Int64) × (Nat → Int64) × Nat × Nat)) : Prop := ∀ (x1 : Int32) (ro : Nat → Int64) (sp : Nat → Int64) (qr : Nat) (qs : Nat) (r : (Nat → Int64) × (Nat → Int64) × Nat × Nat), f x1 ro sp qr qs = some r → ∀ (H : Heap) (locs : List Loc) (ls : Array Slot), va_P D classes (wP a k ro sp qr qs) H → va_D A (wP a k ro sp qr qs) → va_S A s.heap H locs → lv_has ls 2 [(0, .ref (a 10)), (1, .int x1)] → W p l e (rm_P_timesD) s m args below meth c H locs 0 0 (MQ below (qc_P_timesD D A a k r) args s 0 0 A) (F0 m 3 ls [])
def H_P_timesD_0 (p : Program) (l : Launch) (e : Env) (s : State) (m : MethodId) (args : Array Value) (below : List Frame) (meth : Method) (c : Code) (D : va_G) (A : Nat → Prop) (a : Nat → Nat) (k : Nat → ClassId) (f : (Nat → Int64) → (Nat → Int64) → Nat → Nat → Option ((Nat → Int64) × (Nat → Int64) × Nat × Nat)) : Prop := ∀ (ro : Nat → Int64) (sp : Nat → Int64) (qr : Nat) (qs : Nat) (r : (Nat → Int64) × (Nat → Int64) × Nat × Nat), f ro sp qr qs = some r → ∀ (H : Heap) (locs : List Loc) (ls : Array Slot), va_P D classes (wP a k ro sp qr qs) H → va_D A (wP a k ro sp qr qs) → va_S A s.heap H locs → lv_has ls 2 [(0, .ref (a 10))] → W p l e (rm_P_timesD) s m args below meth c H locs 0 0 (MQ below (qc_P_timesD D A a k r) args s 0 0 A) (F0 m 0 ls [])
set_option maxHeartbeats 4000000 in
set_option maxRecDepth 100000 in
theorem k_P_timesD_3 {p : Program} {l : Launch} {e : Env} {s : State} {m : MethodId} {args : Array Value} {below : List Frame} {meth : Method} {c : Code} {D : va_G} {A : Nat → Prop} {a : Nat → Nat} {k : Nat → ClassId} {rec3 : Int32 → (Nat → Int64) → (Nat → Int64) → Nat → Nat → Option ((Nat → Int64) × (Nat → Int64) × Nat × Nat)} (C : cx D [(k 11, .long)] R_P b_P_timesD 2 none A p s m args meth c) (hrec3 : H_P_timesD_3 p l e s m args below meth c D A a k rec3) : H_P_timesD_3 p l e s m args below meth c D A a k (J_P_timesD_3 rec3) := by
  obtain ⟨hx, hb, hr, hml, hown, ht, hlk, hA, hK⟩ := id C
  intro x1 ro sp qr qs r h H locs ls hP hD hS hl
  unfold J_P_timesD_3 at h
  refine lv_iload_n hx hb d_P_timesD_3 rfl (lv_at hl 1 rfl) ?_
  refine lv_bipush (v := 66) hx hb d_P_timesD_4 (by decide) ?_
  refine lv_icmp_gt (tgt := 42) hx hb d_P_timesD_6 (by decide) (fun c_1 => ?_) (fun c_1 => ?_)
  · have h := ite_T c_1 h
    refine lv_aload_n hx hb d_P_timesD_42 rfl (lv_at hl 0 rfl) ?_
    refine va_get (D := D) (ci := 2) (v := .ref qs) (C := R_P) (T := F_P) (N := 2) hx hb ht iC_P hown hK hP 0 rfl rfl 1 (by decide) (ht _ ix_28) (fun _ h9 => h9) rfl d_P_timesD_43 ?_
    refine lv_astore_n (lv' := [(1, .ref qs), (0, .ref (a 10))]) hx hb d_P_timesD_46 rfl hl (by decide) rfl (fun ls hl => ?_)
    refine lv_aload_n hx hb d_P_timesD_47 rfl (lv_at hl 1 rfl) ?_
    refine lv_aload_n hx hb d_P_timesD_48 rfl (lv_at hl 1 rfl) ?_
    refine va_get (D := D) (ci := 2) (v := .ref qr) (C := R_P) (T := F_P) (N := 2) hx hb ht iC_P hown hK hP 0 rfl rfl 0 (by decide) (ht _ ix_22) (fun _ h9 => h9) rfl d_P_timesD_49 ?_
    refine va_put (D := D) (ci := 2) (v := .ref qr) (ty := (.array .long)) (C := R_P) (T := F_P) (N := 2) hx hb ht iC_P t_P t_P_ok n_P hown hK hP hD hS 0 rfl rfl 1 (by decide) (ht _ ix_28) (fun _ h9 => h9) rfl (by decide +kernel) rfl rfl (Nat.le_of_ble_eq_true rfl) d_P_timesD_52 (fun H locs hP hD hS => ?_)
    have hP : va_P D classes [((a 10), .inr (2, [.ref qr, .ref qr])), (qr, .inl (k 11, 133, .inr (.inl ro))), (qs, .inl (k 11, 133, .inr (.inl sp)))] H := hP
    have hD : va_D A [((a 10), .inr (2, [.ref qr, .ref qr])), (qr, .inl (k 11, 133, .inr (.inl ro))), (qs, .inl (k 11, 133, .inr (.inl sp)))] := hD
    refine lv_aload_n hx hb d_P_timesD_55 rfl (lv_at hl 1 rfl) ?_
    refine lv_aload_n hx hb d_P_timesD_56 rfl (lv_at hl 0 rfl) ?_
    refine va_put (D := D) (ci := 2) (v := .ref qs) (ty := (.array .long)) (C := R_P) (T := F_P) (N := 2) hx hb ht iC_P t_P t_P_ok n_P hown hK hP hD hS 0 rfl rfl 0 (by decide) (ht _ ix_22) (fun _ h9 => h9) rfl (by decide +kernel) rfl rfl (Nat.le_of_ble_eq_true rfl) d_P_timesD_57 (fun H locs hP hD hS => ?_)
    have hP : va_P D classes [((a 10), .inr (2, [.ref qs, .ref qr])), (qr, .inl (k 11, 133, .inr (.inl ro))), (qs, .inl (k 11, 133, .inr (.inl sp)))] H := hP
    have hD : va_D A [((a 10), .inr (2, [.ref qs, .ref qr])), (qr, .inl (k 11, 133, .inr (.inl ro))), (qs, .inl (k 11, 133, .inr (.inl sp)))] := hD
    have hP := hP.sub (ws' := (wP a k sp ro qs qr)) [0, 2, 1] rfl
    have hD := hD.sub (ws' := (wP a k sp ro qs qr)) [0, 2, 1] (by decide) rfl
    cases h
    exact W.vret hx hb hr (fun t ht hW => ⟨⟨(), rfl, trivial, by rw [ht]; exact hP, va_K.moved hW.alike hK, hD⟩, hS.F ht⟩) hS.2.2 d_P_timesD_60 hlk
  · have h := ite_F c_1 h
    refine lv_aload_n hx hb d_P_timesD_9 rfl (lv_at hl 0 rfl) ?_
    refine va_get (D := D) (ci := 2) (v := .ref qs) (C := R_P) (T := F_P) (N := 2) hx hb ht iC_P hown hK hP 0 rfl rfl 1 (by decide) (ht _ ix_28) (fun _ h9 => h9) rfl d_P_timesD_10 ?_
    refine lv_iload_n hx hb d_P_timesD_13 rfl (lv_at hl 1 rfl) ?_
    refine lv_bipush (v := 66) hx hb d_P_timesD_14 (by decide) ?_
    refine lv_iadd hx hb d_P_timesD_16 ?_
    refine lv_aload_n hx hb d_P_timesD_17 rfl (lv_at hl 0 rfl) ?_
    refine lv_iload_n hx hb d_P_timesD_18 rfl (lv_at hl 1 rfl) ?_
    refine lv_iconst (v := 2) hx hb d_P_timesD_19 (by decide) ?_
    refine lv_isub hx hb d_P_timesD_20 ?_
    refine lv_i2l (v := ((x1 - (2 : Int32))).toInt64) hx hb d_P_timesD_21 rfl ?_
    obtain ⟨v_2, e_2, h⟩ := bd_some h
    refine go_Vl (r := v_2) (As := [.long (((x1 - (2 : Int32))).toInt64)]) (rest := [.int (x1 + (66 : Int32)), .ref qs]) (wc := (wP a k ro sp qr qs)) (wr := []) (w1 := (wP a k ro sp qr qs)) (w2 := (wP a k ro sp qr qs)) (tc := [(k 11, .long)]) hx hb hml hown ht (c_P_at l D a k H.size (((x1 - (2 : Int32))).toInt64) ro sp qr qs v_2 e_2) g_P_28 ⟨rfl, rfl⟩ (n := 1) (by decide +kernel) ⟨(Nat.le_of_ble_eq_true rfl), (Nat.le_of_ble_eq_true rfl)⟩ hP hD hK hS hA ⟨Nat.zero_le _, Nat.zero_le _⟩ [0, 1, 2] [] [0] [0, 1, 2] rfl rfl rfl rfl (by decide) (by decide) (by decide) rfl (by decide) 0 rfl rfl rfl rfl rfl hl.1 (Nat.le_of_ble_eq_true rfl) d_P_timesD_22 (fun H locs hP hD hS => ?_)
    refine lv_lneg hx hb d_P_timesD_25 ?_
    refine lv_aload_n hx hb d_P_timesD_26 rfl (lv_at hl 0 rfl) ?_
    refine lv_iload_n hx hb d_P_timesD_27 rfl (lv_at hl 1 rfl) ?_
    refine lv_iconst (v := 2) hx hb d_P_timesD_28 (by decide) ?_
    refine lv_iadd hx hb d_P_timesD_29 ?_
    refine lv_i2l (v := ((x1 + (2 : Int32))).toInt64) hx hb d_P_timesD_30 rfl ?_
    obtain ⟨v_3, e_3, h⟩ := bd_some h
    refine go_Vl (r := v_3) (As := [.long (((x1 + (2 : Int32))).toInt64)]) (rest := [.long (-v_2), .int (x1 + (66 : Int32)), .ref qs]) (wc := (wP a k ro sp qr qs)) (wr := []) (w1 := (wP a k ro sp qr qs)) (w2 := (wP a k ro sp qr qs)) (tc := [(k 11, .long)]) hx hb hml hown ht (c_P_at l D a k H.size (((x1 + (2 : Int32))).toInt64) ro sp qr qs v_3 e_3) g_P_28 ⟨rfl, rfl⟩ (n := 1) (by decide +kernel) ⟨(Nat.le_of_ble_eq_true rfl), (Nat.le_of_ble_eq_true rfl)⟩ hP hD hK hS hA ⟨Nat.zero_le _, Nat.zero_le _⟩ [0, 1, 2] [] [0] [0, 1, 2] rfl rfl rfl rfl (by decide) (by decide) (by decide) rfl (by decide) 0 rfl rfl rfl rfl rfl hl.1 (Nat.le_of_ble_eq_true rfl) d_P_timesD_31 (fun H locs hP hD hS => ?_)
    refine lv_lsub hx hb d_P_timesD_34 ?_
    obtain ⟨g_4, h⟩ := gd_some h
    refine va_last hx hb hK hP hD hS 2 0 rfl rfl (inb_in g_4) d_P_timesD_35 (fun H locs hP hD hS => ?_)
    have hP : va_P D classes (wP a k ro (vp_updL sp (x1 + (66 : Int32)).toNatClampNeg ((-v_2) - v_3)) qr qs) H := hP
    have hD : va_D A (wP a k ro (vp_updL sp (x1 + (66 : Int32)).toNatClampNeg ((-v_2) - v_3)) qr qs) := hD
    refine lv_iinc (v := x1 + 1) (lv' := [(1, .int (x1 + 1)), (0, .ref (a 10))]) hx hb d_P_timesD_36 hl (k := 1) rfl rfl (by decide) rfl (fun ls hl => ?_)
    refine lv_goto (tgt := 3) hx hb d_P_timesD_39 (by decide) ?_
    exact hrec3 _ _ _ _ _ _ h _ _ _ hP hD hS (lv_sub hl [1, 0] rfl)
theorem k_P_timesD_3_L {p : Program} {l : Launch} {e : Env} {s : State} {m : MethodId} {args : Array Value} {below : List Frame} {meth : Method} {c : Code} {D : va_G} {A : Nat → Prop} {a : Nat → Nat} {k : Nat → ClassId} (C : cx D [(k 11, .long)] R_P b_P_timesD 2 none A p s m args meth c) : ∀ n : Nat, H_P_timesD_3 p l e s m args below meth c D A a k (L_P_timesD_3 n)
  | 0 => fun _ _ _ _ _ _ h => nomatch h
  | n + 1 => k_P_timesD_3 C (k_P_timesD_3_L C n)
set_option maxHeartbeats 4000000 in
set_option maxRecDepth 100000 in
theorem k_P_timesD_0 {p : Program} {l : Launch} {e : Env} {s : State} {m : MethodId} {args : Array Value} {below : List Frame} {meth : Method} {c : Code} {D : va_G} {A : Nat → Prop} {a : Nat → Nat} {k : Nat → ClassId} (C : cx D [(k 11, .long)] R_P b_P_timesD 2 none A p s m args meth c) : H_P_timesD_0 p l e s m args below meth c D A a k (J_P_timesD_0) := by
  obtain ⟨hx, hb, hr, hml, hown, ht, hlk, hA, hK⟩ := id C
  intro ro sp qr qs r h H locs ls hP hD hS hl
  unfold J_P_timesD_0 at h
  refine lv_bipush (v := (-66)) hx hb d_P_timesD_0 (by decide) ?_
  refine lv_istore_n (lv' := [(1, .int (-66 : Int32)), (0, .ref (a 10))]) hx hb d_P_timesD_2 rfl hl (by decide) rfl (fun ls hl => ?_)
  exact (k_P_timesD_3_L C fu) _ _ _ _ _ _ h _ _ _ hP hD hS (lv_sub hl [1, 0] rfl)
set_option maxRecDepth 20000 in
theorem c_P_timesD (l : Launch) (D : va_G) (a : Nat → Nat) (k : Nat → ClassId) (sz : Nat) (ro : Nat → Int64) (sp : Nat → Int64) (qr : Nat) (qs : Nat) (r : (Nat → Int64) × (Nat → Int64) × Nat × Nat) (h : F_P_timesD ro sp qr qs = some r) : Met l y_P_timesD (Cond.code y_P_timesD b_P_timesD 2 none :: lw_g) (rm_P_timesD) (va_Pc [.ref (a 10)] (pcW D [(k 11, .long)] (wP a k ro sp qr qs) sz)) (qc_P_timesD D (va_A (wP a k ro sp qr qs) sz) a k r) 0 0 (va_A (wP a k ro sp qr qs) sz) := by
  refine Met.ofW (cc := b_P_timesD) (maxL := 2) (ret := none) (by decide) rfl ?_
  intro p e s m args below meth c s₁ B hml hv
  obtain ⟨rfl, hsz, hP, hK, hD0⟩ := hv
  have hts := atoms_spec (ws := Cond.code y_P_timesD b_P_timesD 2 none :: lw_g) B.pre
  subst hsz
  have hD := hD0.self (sz := s.heap.size)
  have hl := lv_entry ([.ref (a 10)]) (n := 2) (Nat.le_of_ble_eq_true rfl)
  rw [lg_entry_eq]
  generalize (lg_sl ([.ref (a 10)]) ++ List.replicate (2 - (lg_sl ([.ref (a 10)])).length) Slot.unset).toArray = ls at hl ⊢
  exact k_P_timesD_0 ⟨B.exec, B.bytes, B.returns, hml, findClass_of_methodNamed B.named, fun w hw => hts w (List.mem_cons_of_mem _ hw), B.notSynchronized, fun q h => Or.inr h, hK⟩ _ _ _ _ _ h _ _ _ hP hD va_S.rf hl

def rm_P_least : Room := { frames := 0, cells := 0, slots := 0, locals := 0 }
def qc_P_least (D : va_G) (A : Nat → Prop) (a : Nat → Nat) (k : Nat → ClassId) (ro : Nat → Int64) (sp : Nat → Int64) (qr : Nat) (qs : Nat) (r : Int32) : Array Value → State → Outcome → State → Prop := va_Qi (fun (r1 : Int32) (_ : Unit) => r1 = r) (poW D [(k 11, .long)] (wP a k ro sp qr qs) A) A
def J_P_least_3 (rec3 : Int32 → (Nat → Int64) → Option (Int32)) (x1 : Int32) (ro : Nat → Int64) : Option (Int32) :=
  (if (66 : Int32) < x1 then some ((0 : Int32)) else (if inb (x1 + (66 : Int32)) 133 then (if (lg_cmp (ro (x1 + (66 : Int32)).toNatClampNeg) (0 : Int64)) = 0 then rec3 (x1 + 1) ro else some (x1)) else none))
def L_P_least_3 : Nat → Int32 → (Nat → Int64) → Option (Int32)
  | 0 => fun _ _ => none
  | n + 1 => J_P_least_3 (L_P_least_3 n)
def J_P_least_0 (ro : Nat → Int64) : Option (Int32) :=
  L_P_least_3 fu (-66 : Int32) ro
def F_P_least (ro : Nat → Int64) : Option (Int32) := J_P_least_0 ro
def H_P_least_3 (p : Program) (l : Launch) (e : Env) (s : State) (m : MethodId) (args : Array Value) (below : List Frame) (meth : Method) (c : Code) (D : va_G) (A : Nat → Prop) (a : Nat → Nat) (k : Nat → ClassId) (sp : Nat → Int64) (qr : Nat) (qs : Nat) (f : Int32 → (Nat → Int64) → Option (Int32)) : Prop := ∀ (x1 : Int32) (ro : Nat → Int64) (r : Int32), f x1 ro = some r → ∀ (H : Heap) (locs : List Loc) (ls : Array Slot), va_P D classes (wP a k ro sp qr qs) H → va_D A (wP a k ro sp qr qs) → va_S A s.heap H locs → lv_has ls 2 [(0, .ref (a 10)), (1, .int x1)] → W p l e (rm_P_least) s m args below meth c H locs 0 0 (MQ below (qc_P_least D A a k ro sp qr qs r) args s 0 0 A) (F0 m 3 ls [])
def H_P_least_0 (p : Program) (l : Launch) (e : Env) (s : State) (m : MethodId) (args : Array Value) (below : List Frame) (meth : Method) (c : Code) (D : va_G) (A : Nat → Prop) (a : Nat → Nat) (k : Nat → ClassId) (sp : Nat → Int64) (qr : Nat) (qs : Nat) (f : (Nat → Int64) → Option (Int32)) : Prop := ∀ (ro : Nat → Int64) (r : Int32), f ro = some r → ∀ (H : Heap) (locs : List Loc) (ls : Array Slot), va_P D classes (wP a k ro sp qr qs) H → va_D A (wP a k ro sp qr qs) → va_S A s.heap H locs → lv_has ls 2 [(0, .ref (a 10))] → W p l e (rm_P_least) s m args below meth c H locs 0 0 (MQ below (qc_P_least D A a k ro sp qr qs r) args s 0 0 A) (F0 m 0 ls [])
set_option maxHeartbeats 4000000 in
set_option maxRecDepth 100000 in
theorem k_P_least_3 {p : Program} {l : Launch} {e : Env} {s : State} {m : MethodId} {args : Array Value} {below : List Frame} {meth : Method} {c : Code} {D : va_G} {A : Nat → Prop} {a : Nat → Nat} {k : Nat → ClassId} {sp : Nat → Int64} {qr : Nat} {qs : Nat} {rec3 : Int32 → (Nat → Int64) → Option (Int32)} (C : cx D [(k 11, .long)] R_P b_P_least 2 (some .int) A p s m args meth c) (hrec3 : H_P_least_3 p l e s m args below meth c D A a k sp qr qs rec3) : H_P_least_3 p l e s m args below meth c D A a k sp qr qs (J_P_least_3 rec3) := by
  obtain ⟨hx, hb, hr, hml, hown, ht, hlk, hA, hK⟩ := id C
  intro x1 ro r h H locs ls hP hD hS hl
  unfold J_P_least_3 at h
  refine lv_iload_n hx hb d_P_least_3 rfl (lv_at hl 1 rfl) ?_
  refine lv_bipush (v := 66) hx hb d_P_least_4 (by decide) ?_
  refine lv_icmp_gt (tgt := 31) hx hb d_P_least_6 (by decide) (fun c_1 => ?_) (fun c_1 => ?_)
  · have h := ite_T c_1 h
    refine lv_iconst (v := 0) hx hb d_P_least_31 (by decide) ?_
    cases h
    exact W.iret hx hb hr (fun t ht hW => ⟨⟨_, (), rfl, rfl, by rw [ht]; exact hP, va_K.moved hW.alike hK, hD⟩, hS.F ht⟩) hS.2.2 d_P_least_32 hlk
  · have h := ite_F c_1 h
    refine lv_aload_n hx hb d_P_least_9 rfl (lv_at hl 0 rfl) ?_
    refine va_get (D := D) (ci := 2) (v := .ref qr) (C := R_P) (T := F_P) (N := 2) hx hb ht iC_P hown hK hP 0 rfl rfl 0 (by decide) (ht _ ix_22) (fun _ h9 => h9) rfl d_P_least_10 ?_
    refine lv_iload_n hx hb d_P_least_13 rfl (lv_at hl 1 rfl) ?_
    refine lv_bipush (v := 66) hx hb d_P_least_14 (by decide) ?_
    refine lv_iadd hx hb d_P_least_16 ?_
    obtain ⟨g_2, h⟩ := gd_some h
    refine va_lald hx hb hK hP 1 0 rfl rfl (inb_in g_2) d_P_least_17 ?_
    refine lv_lconst (v := 0) hx hb d_P_least_18 (by decide) ?_
    refine W.lcmp hx hb d_P_least_19 ?_
    refine lv_if_eq (tgt := 25) hx hb d_P_least_20 (by decide) (fun c_3 => ?_) (fun c_3 => ?_)
    · have h := ite_T c_3 h
      refine lv_iinc (v := x1 + 1) (lv' := [(1, .int (x1 + 1)), (0, .ref (a 10))]) hx hb d_P_least_25 hl (k := 1) rfl rfl (by decide) rfl (fun ls hl => ?_)
      refine lv_goto (tgt := 3) hx hb d_P_least_28 (by decide) ?_
      exact hrec3 _ _ _ h _ _ _ hP hD hS (lv_sub hl [1, 0] rfl)
    · have h := ite_F c_3 h
      refine lv_iload_n hx hb d_P_least_23 rfl (lv_at hl 1 rfl) ?_
      cases h
      exact W.iret hx hb hr (fun t ht hW => ⟨⟨_, (), rfl, rfl, by rw [ht]; exact hP, va_K.moved hW.alike hK, hD⟩, hS.F ht⟩) hS.2.2 d_P_least_24 hlk
theorem k_P_least_3_L {p : Program} {l : Launch} {e : Env} {s : State} {m : MethodId} {args : Array Value} {below : List Frame} {meth : Method} {c : Code} {D : va_G} {A : Nat → Prop} {a : Nat → Nat} {k : Nat → ClassId} {sp : Nat → Int64} {qr : Nat} {qs : Nat} (C : cx D [(k 11, .long)] R_P b_P_least 2 (some .int) A p s m args meth c) : ∀ n : Nat, H_P_least_3 p l e s m args below meth c D A a k sp qr qs (L_P_least_3 n)
  | 0 => fun _ _ _ h => nomatch h
  | n + 1 => k_P_least_3 C (k_P_least_3_L C n)
set_option maxHeartbeats 4000000 in
set_option maxRecDepth 100000 in
theorem k_P_least_0 {p : Program} {l : Launch} {e : Env} {s : State} {m : MethodId} {args : Array Value} {below : List Frame} {meth : Method} {c : Code} {D : va_G} {A : Nat → Prop} {a : Nat → Nat} {k : Nat → ClassId} {sp : Nat → Int64} {qr : Nat} {qs : Nat} (C : cx D [(k 11, .long)] R_P b_P_least 2 (some .int) A p s m args meth c) : H_P_least_0 p l e s m args below meth c D A a k sp qr qs (J_P_least_0) := by
  obtain ⟨hx, hb, hr, hml, hown, ht, hlk, hA, hK⟩ := id C
  intro ro r h H locs ls hP hD hS hl
  unfold J_P_least_0 at h
  refine lv_bipush (v := (-66)) hx hb d_P_least_0 (by decide) ?_
  refine lv_istore_n (lv' := [(1, .int (-66 : Int32)), (0, .ref (a 10))]) hx hb d_P_least_2 rfl hl (by decide) rfl (fun ls hl => ?_)
  exact (k_P_least_3_L C fu) _ _ _ h _ _ _ hP hD hS (lv_sub hl [1, 0] rfl)
set_option maxRecDepth 20000 in
theorem c_P_least (l : Launch) (D : va_G) (a : Nat → Nat) (k : Nat → ClassId) (sz : Nat) (ro : Nat → Int64) (sp : Nat → Int64) (qr : Nat) (qs : Nat) (r : Int32) (h : F_P_least ro = some r) : Met l y_P_least (Cond.code y_P_least b_P_least 2 (some .int) :: lw_g) (rm_P_least) (va_Pc [.ref (a 10)] (pcW D [(k 11, .long)] (wP a k ro sp qr qs) sz)) (qc_P_least D (va_A (wP a k ro sp qr qs) sz) a k ro sp qr qs r) 0 0 (va_A (wP a k ro sp qr qs) sz) := by
  refine Met.ofW (cc := b_P_least) (maxL := 2) (ret := (some .int)) (by decide) rfl ?_
  intro p e s m args below meth c s₁ B hml hv
  obtain ⟨rfl, hsz, hP, hK, hD0⟩ := hv
  have hts := atoms_spec (ws := Cond.code y_P_least b_P_least 2 (some .int) :: lw_g) B.pre
  subst hsz
  have hD := hD0.self (sz := s.heap.size)
  have hl := lv_entry ([.ref (a 10)]) (n := 2) (Nat.le_of_ble_eq_true rfl)
  rw [lg_entry_eq]
  generalize (lg_sl ([.ref (a 10)]) ++ List.replicate (2 - (lg_sl ([.ref (a 10)])).length) Slot.unset).toArray = ls at hl ⊢
  exact k_P_least_0 ⟨B.exec, B.bytes, B.returns, hml, findClass_of_methodNamed B.named, fun w hw => hts w (List.mem_cons_of_mem _ hw), B.notSynchronized, fun q h => Or.inr h, hK⟩ _ _ h _ _ _ hP hD va_S.rf hl

def rm_P_greatest : Room := { frames := 0, cells := 0, slots := 0, locals := 0 }
def qc_P_greatest (D : va_G) (A : Nat → Prop) (a : Nat → Nat) (k : Nat → ClassId) (ro : Nat → Int64) (sp : Nat → Int64) (qr : Nat) (qs : Nat) (r : Int32) : Array Value → State → Outcome → State → Prop := va_Qi (fun (r1 : Int32) (_ : Unit) => r1 = r) (poW D [(k 11, .long)] (wP a k ro sp qr qs) A) A
def J_P_greatest_3 (rec3 : Int32 → (Nat → Int64) → Option (Int32)) (x1 : Int32) (ro : Nat → Int64) : Option (Int32) :=
  (if x1 < (-66 : Int32) then some ((0 : Int32)) else (if inb (x1 + (66 : Int32)) 133 then (if (lg_cmp (ro (x1 + (66 : Int32)).toNatClampNeg) (0 : Int64)) = 0 then rec3 (x1 + (-1)) ro else some (x1)) else none))
def L_P_greatest_3 : Nat → Int32 → (Nat → Int64) → Option (Int32)
  | 0 => fun _ _ => none
  | n + 1 => J_P_greatest_3 (L_P_greatest_3 n)
def J_P_greatest_0 (ro : Nat → Int64) : Option (Int32) :=
  L_P_greatest_3 fu (66 : Int32) ro
def F_P_greatest (ro : Nat → Int64) : Option (Int32) := J_P_greatest_0 ro
def H_P_greatest_3 (p : Program) (l : Launch) (e : Env) (s : State) (m : MethodId) (args : Array Value) (below : List Frame) (meth : Method) (c : Code) (D : va_G) (A : Nat → Prop) (a : Nat → Nat) (k : Nat → ClassId) (sp : Nat → Int64) (qr : Nat) (qs : Nat) (f : Int32 → (Nat → Int64) → Option (Int32)) : Prop := ∀ (x1 : Int32) (ro : Nat → Int64) (r : Int32), f x1 ro = some r → ∀ (H : Heap) (locs : List Loc) (ls : Array Slot), va_P D classes (wP a k ro sp qr qs) H → va_D A (wP a k ro sp qr qs) → va_S A s.heap H locs → lv_has ls 2 [(0, .ref (a 10)), (1, .int x1)] → W p l e (rm_P_greatest) s m args below meth c H locs 0 0 (MQ below (qc_P_greatest D A a k ro sp qr qs r) args s 0 0 A) (F0 m 3 ls [])
def H_P_greatest_0 (p : Program) (l : Launch) (e : Env) (s : State) (m : MethodId) (args : Array Value) (below : List Frame) (meth : Method) (c : Code) (D : va_G) (A : Nat → Prop) (a : Nat → Nat) (k : Nat → ClassId) (sp : Nat → Int64) (qr : Nat) (qs : Nat) (f : (Nat → Int64) → Option (Int32)) : Prop := ∀ (ro : Nat → Int64) (r : Int32), f ro = some r → ∀ (H : Heap) (locs : List Loc) (ls : Array Slot), va_P D classes (wP a k ro sp qr qs) H → va_D A (wP a k ro sp qr qs) → va_S A s.heap H locs → lv_has ls 2 [(0, .ref (a 10))] → W p l e (rm_P_greatest) s m args below meth c H locs 0 0 (MQ below (qc_P_greatest D A a k ro sp qr qs r) args s 0 0 A) (F0 m 0 ls [])
set_option maxHeartbeats 4000000 in
set_option maxRecDepth 100000 in
theorem k_P_greatest_3 {p : Program} {l : Launch} {e : Env} {s : State} {m : MethodId} {args : Array Value} {below : List Frame} {meth : Method} {c : Code} {D : va_G} {A : Nat → Prop} {a : Nat → Nat} {k : Nat → ClassId} {sp : Nat → Int64} {qr : Nat} {qs : Nat} {rec3 : Int32 → (Nat → Int64) → Option (Int32)} (C : cx D [(k 11, .long)] R_P b_P_greatest 2 (some .int) A p s m args meth c) (hrec3 : H_P_greatest_3 p l e s m args below meth c D A a k sp qr qs rec3) : H_P_greatest_3 p l e s m args below meth c D A a k sp qr qs (J_P_greatest_3 rec3) := by
  obtain ⟨hx, hb, hr, hml, hown, ht, hlk, hA, hK⟩ := id C
  intro x1 ro r h H locs ls hP hD hS hl
  unfold J_P_greatest_3 at h
  refine lv_iload_n hx hb d_P_greatest_3 rfl (lv_at hl 1 rfl) ?_
  refine lv_bipush (v := (-66)) hx hb d_P_greatest_4 (by decide) ?_
  refine lv_icmp_lt (tgt := 31) hx hb d_P_greatest_6 (by decide) (fun c_1 => ?_) (fun c_1 => ?_)
  · have h := ite_T c_1 h
    refine lv_iconst (v := 0) hx hb d_P_greatest_31 (by decide) ?_
    cases h
    exact W.iret hx hb hr (fun t ht hW => ⟨⟨_, (), rfl, rfl, by rw [ht]; exact hP, va_K.moved hW.alike hK, hD⟩, hS.F ht⟩) hS.2.2 d_P_greatest_32 hlk
  · have h := ite_F c_1 h
    refine lv_aload_n hx hb d_P_greatest_9 rfl (lv_at hl 0 rfl) ?_
    refine va_get (D := D) (ci := 2) (v := .ref qr) (C := R_P) (T := F_P) (N := 2) hx hb ht iC_P hown hK hP 0 rfl rfl 0 (by decide) (ht _ ix_22) (fun _ h9 => h9) rfl d_P_greatest_10 ?_
    refine lv_iload_n hx hb d_P_greatest_13 rfl (lv_at hl 1 rfl) ?_
    refine lv_bipush (v := 66) hx hb d_P_greatest_14 (by decide) ?_
    refine lv_iadd hx hb d_P_greatest_16 ?_
    obtain ⟨g_2, h⟩ := gd_some h
    refine va_lald hx hb hK hP 1 0 rfl rfl (inb_in g_2) d_P_greatest_17 ?_
    refine lv_lconst (v := 0) hx hb d_P_greatest_18 (by decide) ?_
    refine W.lcmp hx hb d_P_greatest_19 ?_
    refine lv_if_eq (tgt := 25) hx hb d_P_greatest_20 (by decide) (fun c_3 => ?_) (fun c_3 => ?_)
    · have h := ite_T c_3 h
      refine lv_iinc (v := x1 + (-1)) (lv' := [(1, .int (x1 + (-1))), (0, .ref (a 10))]) hx hb d_P_greatest_25 hl (k := 1) rfl rfl (by decide) rfl (fun ls hl => ?_)
      refine lv_goto (tgt := 3) hx hb d_P_greatest_28 (by decide) ?_
      exact hrec3 _ _ _ h _ _ _ hP hD hS (lv_sub hl [1, 0] rfl)
    · have h := ite_F c_3 h
      refine lv_iload_n hx hb d_P_greatest_23 rfl (lv_at hl 1 rfl) ?_
      cases h
      exact W.iret hx hb hr (fun t ht hW => ⟨⟨_, (), rfl, rfl, by rw [ht]; exact hP, va_K.moved hW.alike hK, hD⟩, hS.F ht⟩) hS.2.2 d_P_greatest_24 hlk
theorem k_P_greatest_3_L {p : Program} {l : Launch} {e : Env} {s : State} {m : MethodId} {args : Array Value} {below : List Frame} {meth : Method} {c : Code} {D : va_G} {A : Nat → Prop} {a : Nat → Nat} {k : Nat → ClassId} {sp : Nat → Int64} {qr : Nat} {qs : Nat} (C : cx D [(k 11, .long)] R_P b_P_greatest 2 (some .int) A p s m args meth c) : ∀ n : Nat, H_P_greatest_3 p l e s m args below meth c D A a k sp qr qs (L_P_greatest_3 n)
  | 0 => fun _ _ _ h => nomatch h
  | n + 1 => k_P_greatest_3 C (k_P_greatest_3_L C n)
set_option maxHeartbeats 4000000 in
set_option maxRecDepth 100000 in
theorem k_P_greatest_0 {p : Program} {l : Launch} {e : Env} {s : State} {m : MethodId} {args : Array Value} {below : List Frame} {meth : Method} {c : Code} {D : va_G} {A : Nat → Prop} {a : Nat → Nat} {k : Nat → ClassId} {sp : Nat → Int64} {qr : Nat} {qs : Nat} (C : cx D [(k 11, .long)] R_P b_P_greatest 2 (some .int) A p s m args meth c) : H_P_greatest_0 p l e s m args below meth c D A a k sp qr qs (J_P_greatest_0) := by
  obtain ⟨hx, hb, hr, hml, hown, ht, hlk, hA, hK⟩ := id C
  intro ro r h H locs ls hP hD hS hl
  unfold J_P_greatest_0 at h
  refine lv_bipush (v := 66) hx hb d_P_greatest_0 (by decide) ?_
  refine lv_istore_n (lv' := [(1, .int (66 : Int32)), (0, .ref (a 10))]) hx hb d_P_greatest_2 rfl hl (by decide) rfl (fun ls hl => ?_)
  exact (k_P_greatest_3_L C fu) _ _ _ h _ _ _ hP hD hS (lv_sub hl [1, 0] rfl)
set_option maxRecDepth 20000 in
theorem c_P_greatest (l : Launch) (D : va_G) (a : Nat → Nat) (k : Nat → ClassId) (sz : Nat) (ro : Nat → Int64) (sp : Nat → Int64) (qr : Nat) (qs : Nat) (r : Int32) (h : F_P_greatest ro = some r) : Met l y_P_greatest (Cond.code y_P_greatest b_P_greatest 2 (some .int) :: lw_g) (rm_P_greatest) (va_Pc [.ref (a 10)] (pcW D [(k 11, .long)] (wP a k ro sp qr qs) sz)) (qc_P_greatest D (va_A (wP a k ro sp qr qs) sz) a k ro sp qr qs r) 0 0 (va_A (wP a k ro sp qr qs) sz) := by
  refine Met.ofW (cc := b_P_greatest) (maxL := 2) (ret := (some .int)) (by decide) rfl ?_
  intro p e s m args below meth c s₁ B hml hv
  obtain ⟨rfl, hsz, hP, hK, hD0⟩ := hv
  have hts := atoms_spec (ws := Cond.code y_P_greatest b_P_greatest 2 (some .int) :: lw_g) B.pre
  subst hsz
  have hD := hD0.self (sz := s.heap.size)
  have hl := lv_entry ([.ref (a 10)]) (n := 2) (Nat.le_of_ble_eq_true rfl)
  rw [lg_entry_eq]
  generalize (lg_sl ([.ref (a 10)]) ++ List.replicate (2 - (lg_sl ([.ref (a 10)])).length) Slot.unset).toArray = ls at hl ⊢
  exact k_P_greatest_0 ⟨B.exec, B.bytes, B.returns, hml, findClass_of_methodNamed B.named, fun w hw => hts w (List.mem_cons_of_mem _ hw), B.notSynchronized, fun q h => Or.inr h, hK⟩ _ _ h _ _ _ hP hD va_S.rf hl

def rm_P_isZero : Room := { frames := 1, cells := 0, slots := 0, locals := 21 }
def qc_P_isZero (D : va_G) (A : Nat → Prop) (a : Nat → Nat) (k : Nat → ClassId) (ro : Nat → Int64) (sp : Nat → Int64) (qr : Nat) (qs : Nat) (r : Int32) : Array Value → State → Outcome → State → Prop := va_Qi (fun (r1 : Int32) (_ : Unit) => r1 = r) (poW D [(k 11, .long)] (wP a k ro sp qr qs) A) A
def J_P_isZero_0 (ro : Nat → Int64) : Option (Int32) :=
  (Option.bind (F_P_least ro) (fun v_1 => (if inb (v_1 + (66 : Int32)) 133 then (if (lg_cmp (ro (v_1 + (66 : Int32)).toNatClampNeg) (0 : Int64)) = 0 then some ((1 : Int32)) else some ((0 : Int32))) else none)))
def F_P_isZero (ro : Nat → Int64) : Option (Int32) := J_P_isZero_0 ro
def H_P_isZero_0 (p : Program) (l : Launch) (e : Env) (s : State) (m : MethodId) (args : Array Value) (below : List Frame) (meth : Method) (c : Code) (D : va_G) (A : Nat → Prop) (a : Nat → Nat) (k : Nat → ClassId) (sp : Nat → Int64) (qr : Nat) (qs : Nat) (f : (Nat → Int64) → Option (Int32)) : Prop := ∀ (ro : Nat → Int64) (r : Int32), f ro = some r → ∀ (H : Heap) (locs : List Loc) (ls : Array Slot), va_P D classes (wP a k ro sp qr qs) H → va_D A (wP a k ro sp qr qs) → va_S A s.heap H locs → lv_has ls 1 [(0, .ref (a 10))] → W p l e (rm_P_isZero) s m args below meth c H locs 0 0 (MQ below (qc_P_isZero D A a k ro sp qr qs r) args s 0 0 A) (F0 m 0 ls [])
set_option maxHeartbeats 4000000 in
set_option maxRecDepth 100000 in
theorem k_P_isZero_0 {p : Program} {l : Launch} {e : Env} {s : State} {m : MethodId} {args : Array Value} {below : List Frame} {meth : Method} {c : Code} {D : va_G} {A : Nat → Prop} {a : Nat → Nat} {k : Nat → ClassId} {sp : Nat → Int64} {qr : Nat} {qs : Nat} (C : cx D [(k 11, .long)] R_P b_P_isZero 1 (some .boolean) A p s m args meth c) : H_P_isZero_0 p l e s m args below meth c D A a k sp qr qs (J_P_isZero_0) := by
  obtain ⟨hx, hb, hr, hml, hown, ht, hlk, hA, hK⟩ := id C
  intro ro r h H locs ls hP hD hS hl
  unfold J_P_isZero_0 at h
  refine lv_aload_n hx hb d_P_isZero_0 rfl (lv_at hl 0 rfl) ?_
  refine va_get (D := D) (ci := 2) (v := .ref qr) (C := R_P) (T := F_P) (N := 2) hx hb ht iC_P hown hK hP 0 rfl rfl 0 (by decide) (ht _ ix_22) (fun _ h9 => h9) rfl d_P_isZero_1 ?_
  refine lv_aload_n hx hb d_P_isZero_4 rfl (lv_at hl 0 rfl) ?_
  obtain ⟨v_1, e_1, h⟩ := bd_some h
  refine go_Vi (r := v_1) (As := []) (rest := [.ref qr]) (wc := (wP a k ro sp qr qs)) (wr := []) (w1 := (wP a k ro sp qr qs)) (w2 := (wP a k ro sp qr qs)) (tc := [(k 11, .long)]) hx hb hml hown ht (c_P_least l D a k H.size ro sp qr qs v_1 e_1) g_P_32 ⟨rfl, rfl⟩ (n := 0) (by decide +kernel) ⟨(Nat.le_of_ble_eq_true rfl), (Nat.le_of_ble_eq_true rfl)⟩ hP hD hK hS hA ⟨Nat.zero_le _, Nat.zero_le _⟩ [0, 1, 2] [] [0] [0, 1, 2] rfl rfl rfl rfl (by decide) (by decide) (by decide) rfl (by decide) 0 rfl rfl rfl rfl rfl hl.1 (Nat.le_of_ble_eq_true rfl) d_P_isZero_5 (fun H locs hP hD hS => ?_)
  refine lv_bipush (v := 66) hx hb d_P_isZero_8 (by decide) ?_
  refine lv_iadd hx hb d_P_isZero_10 ?_
  obtain ⟨g_2, h⟩ := gd_some h
  refine va_lald hx hb hK hP 1 0 rfl rfl (inb_in g_2) d_P_isZero_11 ?_
  refine lv_lconst (v := 0) hx hb d_P_isZero_12 (by decide) ?_
  refine W.lcmp hx hb d_P_isZero_13 ?_
  refine lv_if_ne (tgt := 21) hx hb d_P_isZero_14 (by decide) (fun c_3 => ?_) (fun c_3 => ?_)
  · have h := ite_F c_3 h
    refine lv_iconst (v := 0) hx hb d_P_isZero_21 (by decide) ?_
    cases h
    exact W.zret hx hb hr rfl (fun t ht hW => ⟨⟨_, (), rfl, rfl, by rw [ht]; exact hP, va_K.moved hW.alike hK, hD⟩, hS.F ht⟩) hS.2.2 d_P_isZero_22 hlk
  · have h := ite_T c_3 h
    refine lv_iconst (v := 1) hx hb d_P_isZero_17 (by decide) ?_
    refine lv_goto (tgt := 22) hx hb d_P_isZero_18 (by decide) ?_
    cases h
    exact W.zret hx hb hr rfl (fun t ht hW => ⟨⟨_, (), rfl, rfl, by rw [ht]; exact hP, va_K.moved hW.alike hK, hD⟩, hS.F ht⟩) hS.2.2 d_P_isZero_22 hlk
set_option maxRecDepth 20000 in
theorem c_P_isZero (l : Launch) (D : va_G) (a : Nat → Nat) (k : Nat → ClassId) (sz : Nat) (ro : Nat → Int64) (sp : Nat → Int64) (qr : Nat) (qs : Nat) (r : Int32) (h : F_P_isZero ro = some r) : Met l y_P_isZero (Cond.code y_P_isZero b_P_isZero 1 (some .boolean) :: lw_g) (rm_P_isZero) (va_Pc [.ref (a 10)] (pcW D [(k 11, .long)] (wP a k ro sp qr qs) sz)) (qc_P_isZero D (va_A (wP a k ro sp qr qs) sz) a k ro sp qr qs r) 0 0 (va_A (wP a k ro sp qr qs) sz) := by
  refine Met.ofW (cc := b_P_isZero) (maxL := 1) (ret := (some .boolean)) (by decide) rfl ?_
  intro p e s m args below meth c s₁ B hml hv
  obtain ⟨rfl, hsz, hP, hK, hD0⟩ := hv
  have hts := atoms_spec (ws := Cond.code y_P_isZero b_P_isZero 1 (some .boolean) :: lw_g) B.pre
  subst hsz
  have hD := hD0.self (sz := s.heap.size)
  have hl := lv_entry ([.ref (a 10)]) (n := 1) (Nat.le_of_ble_eq_true rfl)
  rw [lg_entry_eq]
  generalize (lg_sl ([.ref (a 10)]) ++ List.replicate (1 - (lg_sl ([.ref (a 10)])).length) Slot.unset).toArray = ls at hl ⊢
  exact k_P_isZero_0 ⟨B.exec, B.bytes, B.returns, hml, findClass_of_methodNamed B.named, fun w hw => hts w (List.mem_cons_of_mem _ hw), B.notSynchronized, fun q h => Or.inr h, hK⟩ _ _ h _ _ _ hP hD va_S.rf hl
end
section
def rm_B_isCrossing : Room := { frames := 0, cells := 0, slots := 0, locals := 0 }
def qc_B_isCrossing (D : va_G) (A : Nat → Prop) (a : Nat → Nat) (k : Nat → ClassId) (lab : Nat → Int32) (sg : Nat → Int32) (cc : Int32) (ci : Int32) (od : Nat → Int32) (sd : Nat → Int32) (go : Nat → Int32) (ta : Nat → Int32) (we : Int32) (oe : Nat → Int32) (fp : Nat → Int32) (ro : Nat → Int64) (sp : Nat → Int64) (qr : Nat) (qs : Nat) (r : Int32) : Array Value → State → Outcome → State → Prop := va_Qi (fun (r1 : Int32) (_ : Unit) => r1 = r) (poW D [(k 1, .int), (k 2, .int), (k 3, .int), (k 4, .int), (k 5, .boolean), (k 6, .int), (k 8, .int), (k 9, .int), (k 11, .long)] (wB a k lab sg cc ci od sd go ta we oe fp ro sp qr qs) A) A
def J_B_isCrossing_0 (x1 : Int32) (cc : Int32) : Option (Int32) :=
  (if x1 < 0 then some ((0 : Int32)) else (if cc ≤ x1 then some ((0 : Int32)) else some ((1 : Int32))))
def F_B_isCrossing (x1 : Int32) (cc : Int32) : Option (Int32) := J_B_isCrossing_0 x1 cc
def H_B_isCrossing_0 (p : Program) (l : Launch) (e : Env) (s : State) (m : MethodId) (args : Array Value) (below : List Frame) (meth : Method) (c : Code) (D : va_G) (A : Nat → Prop) (a : Nat → Nat) (k : Nat → ClassId) (lab : Nat → Int32) (sg : Nat → Int32) (ci : Int32) (od : Nat → Int32) (sd : Nat → Int32) (go : Nat → Int32) (ta : Nat → Int32) (we : Int32) (oe : Nat → Int32) (fp : Nat → Int32) (ro : Nat → Int64) (sp : Nat → Int64) (qr : Nat) (qs : Nat) (f : Int32 → Int32 → Option (Int32)) : Prop := ∀ (x1 : Int32) (cc : Int32) (r : Int32), f x1 cc = some r → ∀ (H : Heap) (locs : List Loc) (ls : Array Slot), va_P D classes (wB a k lab sg cc ci od sd go ta we oe fp ro sp qr qs) H → va_D A (wB a k lab sg cc ci od sd go ta we oe fp ro sp qr qs) → va_S A s.heap H locs → lv_has ls 2 [(0, .ref (a 0)), (1, .int x1)] → W p l e (rm_B_isCrossing) s m args below meth c H locs 0 0 (MQ below (qc_B_isCrossing D A a k lab sg cc ci od sd go ta we oe fp ro sp qr qs r) args s 0 0 A) (F0 m 0 ls [])
set_option maxHeartbeats 4000000 in
set_option maxRecDepth 100000 in
theorem k_B_isCrossing_0 {p : Program} {l : Launch} {e : Env} {s : State} {m : MethodId} {args : Array Value} {below : List Frame} {meth : Method} {c : Code} {D : va_G} {A : Nat → Prop} {a : Nat → Nat} {k : Nat → ClassId} {lab : Nat → Int32} {sg : Nat → Int32} {ci : Int32} {od : Nat → Int32} {sd : Nat → Int32} {go : Nat → Int32} {ta : Nat → Int32} {we : Int32} {oe : Nat → Int32} {fp : Nat → Int32} {ro : Nat → Int64} {sp : Nat → Int64} {qr : Nat} {qs : Nat} (C : cx D [(k 1, .int), (k 2, .int), (k 3, .int), (k 4, .int), (k 5, .boolean), (k 6, .int), (k 8, .int), (k 9, .int), (k 11, .long)] R_B b_B_isCrossing 2 (some .boolean) A p s m args meth c) : H_B_isCrossing_0 p l e s m args below meth c D A a k lab sg ci od sd go ta we oe fp ro sp qr qs (J_B_isCrossing_0) := by
  obtain ⟨hx, hb, hr, hml, hown, ht, hlk, hA, hK⟩ := id C
  intro x1 cc r h H locs ls hP hD hS hl
  unfold J_B_isCrossing_0 at h
  refine lv_iload_n hx hb d_B_isCrossing_0 rfl (lv_at hl 1 rfl) ?_
  refine lv_if_lt (tgt := 16) hx hb d_B_isCrossing_1 (by decide) (fun c_1 => ?_) (fun c_1 => ?_)
  · have h := ite_T c_1 h
    refine lv_iconst (v := 0) hx hb d_B_isCrossing_16 (by decide) ?_
    cases h
    exact W.zret hx hb hr rfl (fun t ht hW => ⟨⟨_, (), rfl, rfl, by rw [ht]; exact hP, va_K.moved hW.alike hK, hD⟩, hS.F ht⟩) hS.2.2 d_B_isCrossing_17 hlk
  · have h := ite_F c_1 h
    refine lv_iload_n hx hb d_B_isCrossing_4 rfl (lv_at hl 1 rfl) ?_
    refine lv_aload_n hx hb d_B_isCrossing_5 rfl (lv_at hl 0 rfl) ?_
    refine va_get (D := D) (ci := 0) (v := .int cc) (C := R_B) (T := F_B) (N := 11) hx hb ht iC_B hown hK hP 0 rfl rfl 2 (by decide) (ht _ ix_38) (fun _ h9 => h9) rfl d_B_isCrossing_6 ?_
    refine lv_icmp_ge (tgt := 16) hx hb d_B_isCrossing_9 (by decide) (fun c_2 => ?_) (fun c_2 => ?_)
    · have h := ite_T c_2 h
      refine lv_iconst (v := 0) hx hb d_B_isCrossing_16 (by decide) ?_
      cases h
      exact W.zret hx hb hr rfl (fun t ht hW => ⟨⟨_, (), rfl, rfl, by rw [ht]; exact hP, va_K.moved hW.alike hK, hD⟩, hS.F ht⟩) hS.2.2 d_B_isCrossing_17 hlk
    · have h := ite_F c_2 h
      refine lv_iconst (v := 1) hx hb d_B_isCrossing_12 (by decide) ?_
      refine lv_goto (tgt := 17) hx hb d_B_isCrossing_13 (by decide) ?_
      cases h
      exact W.zret hx hb hr rfl (fun t ht hW => ⟨⟨_, (), rfl, rfl, by rw [ht]; exact hP, va_K.moved hW.alike hK, hD⟩, hS.F ht⟩) hS.2.2 d_B_isCrossing_17 hlk
set_option maxRecDepth 20000 in
theorem c_B_isCrossing (l : Launch) (D : va_G) (a : Nat → Nat) (k : Nat → ClassId) (sz : Nat) (x1 : Int32) (lab : Nat → Int32) (sg : Nat → Int32) (cc : Int32) (ci : Int32) (od : Nat → Int32) (sd : Nat → Int32) (go : Nat → Int32) (ta : Nat → Int32) (we : Int32) (oe : Nat → Int32) (fp : Nat → Int32) (ro : Nat → Int64) (sp : Nat → Int64) (qr : Nat) (qs : Nat) (r : Int32) (h : F_B_isCrossing x1 cc = some r) : Met l y_B_isCrossing (Cond.code y_B_isCrossing b_B_isCrossing 2 (some .boolean) :: lw_g) (rm_B_isCrossing) (va_Pc [.ref (a 0), .int x1] (pcW D [(k 1, .int), (k 2, .int), (k 3, .int), (k 4, .int), (k 5, .boolean), (k 6, .int), (k 8, .int), (k 9, .int), (k 11, .long)] (wB a k lab sg cc ci od sd go ta we oe fp ro sp qr qs) sz)) (qc_B_isCrossing D (va_A (wB a k lab sg cc ci od sd go ta we oe fp ro sp qr qs) sz) a k lab sg cc ci od sd go ta we oe fp ro sp qr qs r) 0 0 (va_A (wB a k lab sg cc ci od sd go ta we oe fp ro sp qr qs) sz) := by
  refine Met.ofW (cc := b_B_isCrossing) (maxL := 2) (ret := (some .boolean)) (by decide) rfl ?_
  intro p e s m args below meth c s₁ B hml hv
  obtain ⟨rfl, hsz, hP, hK, hD0⟩ := hv
  have hts := atoms_spec (ws := Cond.code y_B_isCrossing b_B_isCrossing 2 (some .boolean) :: lw_g) B.pre
  subst hsz
  have hD := hD0.self (sz := s.heap.size)
  have hl := lv_entry ([.ref (a 0), .int x1]) (n := 2) (Nat.le_of_ble_eq_true rfl)
  rw [lg_entry_eq]
  generalize (lg_sl ([.ref (a 0), .int x1]) ++ List.replicate (2 - (lg_sl ([.ref (a 0), .int x1])).length) Slot.unset).toArray = ls at hl ⊢
  exact k_B_isCrossing_0 ⟨B.exec, B.bytes, B.returns, hml, findClass_of_methodNamed B.named, fun w hw => hts w (List.mem_cons_of_mem _ hw), B.notSynchronized, fun q h => Or.inr h, hK⟩ _ _ _ h _ _ _ hP hD va_S.rf hl

def rm_B_orderAsGiven : Room := { frames := 0, cells := 0, slots := 0, locals := 0 }
def qc_B_orderAsGiven (D : va_G) (A : Nat → Prop) (a : Nat → Nat) (k : Nat → ClassId) (lab : Nat → Int32) (sg : Nat → Int32) (cc : Int32) (ci : Int32) (sd : Nat → Int32) (go : Nat → Int32) (ta : Nat → Int32) (oe : Nat → Int32) (fp : Nat → Int32) (ro : Nat → Int64) (sp : Nat → Int64) (qr : Nat) (qs : Nat) (r : (Nat → Int32) × Int32) : Array Value → State → Outcome → State → Prop := va_Qv (fun (_ : Unit) => True) (poW D [(k 1, .int), (k 2, .int), (k 3, .int), (k 4, .int), (k 5, .boolean), (k 6, .int), (k 8, .int), (k 9, .int), (k 11, .long)] (wB a k lab sg cc ci r.1 sd go ta r.2 oe fp ro sp qr qs) A) A
def J_B_orderAsGiven_2 (rec2 : Int32 → (Nat → Int32) → Int32 → Option ((Nat → Int32) × Int32)) (x1 : Int32) (od : Nat → Int32) (we : Int32) : Option ((Nat → Int32) × Int32) :=
  (if (10 : Int32) ≤ x1 then some (od, (0 : Int32)) else (if inb x1 10 then rec2 (x1 + 1) (upd od x1.toNatClampNeg x1) we else none))
def L_B_orderAsGiven_2 : Nat → Int32 → (Nat → Int32) → Int32 → Option ((Nat → Int32) × Int32)
  | 0 => fun _ _ _ => none
  | n + 1 => J_B_orderAsGiven_2 (L_B_orderAsGiven_2 n)
def J_B_orderAsGiven_0 (od : Nat → Int32) (we : Int32) : Option ((Nat → Int32) × Int32) :=
  L_B_orderAsGiven_2 fu (0 : Int32) od we
def F_B_orderAsGiven (od : Nat → Int32) (we : Int32) : Option ((Nat → Int32) × Int32) := J_B_orderAsGiven_0 od we
def H_B_orderAsGiven_2 (p : Program) (l : Launch) (e : Env) (s : State) (m : MethodId) (args : Array Value) (below : List Frame) (meth : Method) (c : Code) (D : va_G) (A : Nat → Prop) (a : Nat → Nat) (k : Nat → ClassId) (lab : Nat → Int32) (sg : Nat → Int32) (cc : Int32) (ci : Int32) (sd : Nat → Int32) (go : Nat → Int32) (ta : Nat → Int32) (oe : Nat → Int32) (fp : Nat → Int32) (ro : Nat → Int64) (sp : Nat → Int64) (qr : Nat) (qs : Nat) (f : Int32 → (Nat → Int32) → Int32 → Option ((Nat → Int32) × Int32)) : Prop := ∀ (x1 : Int32) (od : Nat → Int32) (we : Int32) (r : (Nat → Int32) × Int32), f x1 od we = some r → ∀ (H : Heap) (locs : List Loc) (ls : Array Slot), va_P D classes (wB a k lab sg cc ci od sd go ta we oe fp ro sp qr qs) H → va_D A (wB a k lab sg cc ci od sd go ta we oe fp ro sp qr qs) → va_S A s.heap H locs → lv_has ls 2 [(0, .ref (a 0)), (1, .int x1)] → W p l e (rm_B_orderAsGiven) s m args below meth c H locs 0 0 (MQ below (qc_B_orderAsGiven D A a k lab sg cc ci sd go ta oe fp ro sp qr qs r) args s 0 0 A) (F0 m 2 ls [])
def H_B_orderAsGiven_0 (p : Program) (l : Launch) (e : Env) (s : State) (m : MethodId) (args : Array Value) (below : List Frame) (meth : Method) (c : Code) (D : va_G) (A : Nat → Prop) (a : Nat → Nat) (k : Nat → ClassId) (lab : Nat → Int32) (sg : Nat → Int32) (cc : Int32) (ci : Int32) (sd : Nat → Int32) (go : Nat → Int32) (ta : Nat → Int32) (oe : Nat → Int32) (fp : Nat → Int32) (ro : Nat → Int64) (sp : Nat → Int64) (qr : Nat) (qs : Nat) (f : (Nat → Int32) → Int32 → Option ((Nat → Int32) × Int32)) : Prop := ∀ (od : Nat → Int32) (we : Int32) (r : (Nat → Int32) × Int32), f od we = some r → ∀ (H : Heap) (locs : List Loc) (ls : Array Slot), va_P D classes (wB a k lab sg cc ci od sd go ta we oe fp ro sp qr qs) H → va_D A (wB a k lab sg cc ci od sd go ta we oe fp ro sp qr qs) → va_S A s.heap H locs → lv_has ls 2 [(0, .ref (a 0))] → W p l e (rm_B_orderAsGiven) s m args below meth c H locs 0 0 (MQ below (qc_B_orderAsGiven D A a k lab sg cc ci sd go ta oe fp ro sp qr qs r) args s 0 0 A) (F0 m 0 ls [])
set_option maxHeartbeats 4000000 in
set_option maxRecDepth 100000 in
theorem k_B_orderAsGiven_2 {p : Program} {l : Launch} {e : Env} {s : State} {m : MethodId} {args : Array Value} {below : List Frame} {meth : Method} {c : Code} {D : va_G} {A : Nat → Prop} {a : Nat → Nat} {k : Nat → ClassId} {lab : Nat → Int32} {sg : Nat → Int32} {cc : Int32} {ci : Int32} {sd : Nat → Int32} {go : Nat → Int32} {ta : Nat → Int32} {oe : Nat → Int32} {fp : Nat → Int32} {ro : Nat → Int64} {sp : Nat → Int64} {qr : Nat} {qs : Nat} {rec2 : Int32 → (Nat → Int32) → Int32 → Option ((Nat → Int32) × Int32)} (C : cx D [(k 1, .int), (k 2, .int), (k 3, .int), (k 4, .int), (k 5, .boolean), (k 6, .int), (k 8, .int), (k 9, .int), (k 11, .long)] R_B b_B_orderAsGiven 2 none A p s m args meth c) (hrec2 : H_B_orderAsGiven_2 p l e s m args below meth c D A a k lab sg cc ci sd go ta oe fp ro sp qr qs rec2) : H_B_orderAsGiven_2 p l e s m args below meth c D A a k lab sg cc ci sd go ta oe fp ro sp qr qs (J_B_orderAsGiven_2 rec2) := by
  obtain ⟨hx, hb, hr, hml, hown, ht, hlk, hA, hK⟩ := id C
  intro x1 od we r h H locs ls hP hD hS hl
  unfold J_B_orderAsGiven_2 at h
  refine lv_iload_n hx hb d_B_orderAsGiven_2 rfl (lv_at hl 1 rfl) ?_
  refine lv_bipush (v := 10) hx hb d_B_orderAsGiven_3 (by decide) ?_
  refine lv_icmp_ge (tgt := 21) hx hb d_B_orderAsGiven_5 (by decide) (fun c_1 => ?_) (fun c_1 => ?_)
  · have h := ite_T c_1 h
    refine lv_aload_n hx hb d_B_orderAsGiven_21 rfl (lv_at hl 0 rfl) ?_
    refine lv_iconst (v := 0) hx hb d_B_orderAsGiven_22 (by decide) ?_
    refine va_put (D := D) (ci := 0) (v := .int (0 : Int32)) (ty := .boolean) (C := R_B) (T := F_B) (N := 11) hx hb ht iC_B t_B t_B_ok n_B hown hK hP hD hS 0 rfl rfl 10 (by decide) (ht _ ix_39) (fun _ h9 => h9) rfl (by decide +kernel) rfl rfl (Nat.le_of_ble_eq_true rfl) d_B_orderAsGiven_23 (fun H locs hP hD hS => ?_)
    have hP : va_P D classes (wB a k lab sg cc ci od sd go ta (0 : Int32) oe fp ro sp qr qs) H := hP
    have hD : va_D A (wB a k lab sg cc ci od sd go ta (0 : Int32) oe fp ro sp qr qs) := hD
    cases h
    exact W.vret hx hb hr (fun t ht hW => ⟨⟨(), rfl, trivial, by rw [ht]; exact hP, va_K.moved hW.alike hK, hD⟩, hS.F ht⟩) hS.2.2 d_B_orderAsGiven_26 hlk
  · have h := ite_F c_1 h
    refine lv_aload_n hx hb d_B_orderAsGiven_8 rfl (lv_at hl 0 rfl) ?_
    refine va_get (D := D) (ci := 0) (v := .ref (a 3)) (C := R_B) (T := F_B) (N := 11) hx hb ht iC_B hown hK hP 0 rfl rfl 4 (by decide) (ht _ ix_40) (fun _ h9 => h9) rfl d_B_orderAsGiven_9 ?_
    refine lv_iload_n hx hb d_B_orderAsGiven_12 rfl (lv_at hl 1 rfl) ?_
    refine lv_iload_n hx hb d_B_orderAsGiven_13 rfl (lv_at hl 1 rfl) ?_
    obtain ⟨g_2, h⟩ := gd_some h
    refine va_iast hx hb hK hP hD hS 3 2 rfl rfl (inb_in g_2) d_B_orderAsGiven_14 (fun H locs hP hD hS => ?_)
    have hP : va_P D classes (wB a k lab sg cc ci (upd od x1.toNatClampNeg x1) sd go ta we oe fp ro sp qr qs) H := hP
    have hD : va_D A (wB a k lab sg cc ci (upd od x1.toNatClampNeg x1) sd go ta we oe fp ro sp qr qs) := hD
    refine lv_iinc (v := x1 + 1) (lv' := [(1, .int (x1 + 1)), (0, .ref (a 0))]) hx hb d_B_orderAsGiven_15 hl (k := 1) rfl rfl (by decide) rfl (fun ls hl => ?_)
    refine lv_goto (tgt := 2) hx hb d_B_orderAsGiven_18 (by decide) ?_
    exact hrec2 _ _ _ _ h _ _ _ hP hD hS (lv_sub hl [1, 0] rfl)
theorem k_B_orderAsGiven_2_L {p : Program} {l : Launch} {e : Env} {s : State} {m : MethodId} {args : Array Value} {below : List Frame} {meth : Method} {c : Code} {D : va_G} {A : Nat → Prop} {a : Nat → Nat} {k : Nat → ClassId} {lab : Nat → Int32} {sg : Nat → Int32} {cc : Int32} {ci : Int32} {sd : Nat → Int32} {go : Nat → Int32} {ta : Nat → Int32} {oe : Nat → Int32} {fp : Nat → Int32} {ro : Nat → Int64} {sp : Nat → Int64} {qr : Nat} {qs : Nat} (C : cx D [(k 1, .int), (k 2, .int), (k 3, .int), (k 4, .int), (k 5, .boolean), (k 6, .int), (k 8, .int), (k 9, .int), (k 11, .long)] R_B b_B_orderAsGiven 2 none A p s m args meth c) : ∀ n : Nat, H_B_orderAsGiven_2 p l e s m args below meth c D A a k lab sg cc ci sd go ta oe fp ro sp qr qs (L_B_orderAsGiven_2 n)
  | 0 => fun _ _ _ _ h => nomatch h
  | n + 1 => k_B_orderAsGiven_2 C (k_B_orderAsGiven_2_L C n)
set_option maxHeartbeats 4000000 in
set_option maxRecDepth 100000 in
theorem k_B_orderAsGiven_0 {p : Program} {l : Launch} {e : Env} {s : State} {m : MethodId} {args : Array Value} {below : List Frame} {meth : Method} {c : Code} {D : va_G} {A : Nat → Prop} {a : Nat → Nat} {k : Nat → ClassId} {lab : Nat → Int32} {sg : Nat → Int32} {cc : Int32} {ci : Int32} {sd : Nat → Int32} {go : Nat → Int32} {ta : Nat → Int32} {oe : Nat → Int32} {fp : Nat → Int32} {ro : Nat → Int64} {sp : Nat → Int64} {qr : Nat} {qs : Nat} (C : cx D [(k 1, .int), (k 2, .int), (k 3, .int), (k 4, .int), (k 5, .boolean), (k 6, .int), (k 8, .int), (k 9, .int), (k 11, .long)] R_B b_B_orderAsGiven 2 none A p s m args meth c) : H_B_orderAsGiven_0 p l e s m args below meth c D A a k lab sg cc ci sd go ta oe fp ro sp qr qs (J_B_orderAsGiven_0) := by
  obtain ⟨hx, hb, hr, hml, hown, ht, hlk, hA, hK⟩ := id C
  intro od we r h H locs ls hP hD hS hl
  unfold J_B_orderAsGiven_0 at h
  refine lv_iconst (v := 0) hx hb d_B_orderAsGiven_0 (by decide) ?_
  refine lv_istore_n (lv' := [(1, .int (0 : Int32)), (0, .ref (a 0))]) hx hb d_B_orderAsGiven_1 rfl hl (by decide) rfl (fun ls hl => ?_)
  exact (k_B_orderAsGiven_2_L C fu) _ _ _ _ h _ _ _ hP hD hS (lv_sub hl [1, 0] rfl)
set_option maxRecDepth 20000 in
theorem c_B_orderAsGiven (l : Launch) (D : va_G) (a : Nat → Nat) (k : Nat → ClassId) (sz : Nat) (lab : Nat → Int32) (sg : Nat → Int32) (cc : Int32) (ci : Int32) (od : Nat → Int32) (sd : Nat → Int32) (go : Nat → Int32) (ta : Nat → Int32) (we : Int32) (oe : Nat → Int32) (fp : Nat → Int32) (ro : Nat → Int64) (sp : Nat → Int64) (qr : Nat) (qs : Nat) (r : (Nat → Int32) × Int32) (h : F_B_orderAsGiven od we = some r) : Met l y_B_orderAsGiven (Cond.code y_B_orderAsGiven b_B_orderAsGiven 2 none :: lw_g) (rm_B_orderAsGiven) (va_Pc [.ref (a 0)] (pcW D [(k 1, .int), (k 2, .int), (k 3, .int), (k 4, .int), (k 5, .boolean), (k 6, .int), (k 8, .int), (k 9, .int), (k 11, .long)] (wB a k lab sg cc ci od sd go ta we oe fp ro sp qr qs) sz)) (qc_B_orderAsGiven D (va_A (wB a k lab sg cc ci od sd go ta we oe fp ro sp qr qs) sz) a k lab sg cc ci sd go ta oe fp ro sp qr qs r) 0 0 (va_A (wB a k lab sg cc ci od sd go ta we oe fp ro sp qr qs) sz) := by
  refine Met.ofW (cc := b_B_orderAsGiven) (maxL := 2) (ret := none) (by decide) rfl ?_
  intro p e s m args below meth c s₁ B hml hv
  obtain ⟨rfl, hsz, hP, hK, hD0⟩ := hv
  have hts := atoms_spec (ws := Cond.code y_B_orderAsGiven b_B_orderAsGiven 2 none :: lw_g) B.pre
  subst hsz
  have hD := hD0.self (sz := s.heap.size)
  have hl := lv_entry ([.ref (a 0)]) (n := 2) (Nat.le_of_ble_eq_true rfl)
  rw [lg_entry_eq]
  generalize (lg_sl ([.ref (a 0)]) ++ List.replicate (2 - (lg_sl ([.ref (a 0)])).length) Slot.unset).toArray = ls at hl ⊢
  exact k_B_orderAsGiven_0 ⟨B.exec, B.bytes, B.returns, hml, findClass_of_methodNamed B.named, fun w hw => hts w (List.mem_cons_of_mem _ hw), B.notSynchronized, fun q h => Or.inr h, hK⟩ _ _ _ h _ _ _ hP hD va_S.rf hl

def rm_B_countStanding : Room := { frames := 1, cells := 0, slots := 0, locals := 23 }
def qc_B_countStanding (D : va_G) (A : Nat → Prop) (a : Nat → Nat) (k : Nat → ClassId) (lab : Nat → Int32) (sg : Nat → Int32) (cc : Int32) (ci : Int32) (od : Nat → Int32) (go : Nat → Int32) (ta : Nat → Int32) (we : Int32) (oe : Nat → Int32) (fp : Nat → Int32) (ro : Nat → Int64) (sp : Nat → Int64) (qr : Nat) (qs : Nat) (r : (Nat → Int32)) : Array Value → State → Outcome → State → Prop := va_Qv (fun (_ : Unit) => True) (poW D [(k 1, .int), (k 2, .int), (k 3, .int), (k 4, .int), (k 5, .boolean), (k 6, .int), (k 8, .int), (k 9, .int), (k 11, .long)] (wB a k lab sg cc ci od r go ta we oe fp ro sp qr qs) A) A
def J_B_countStanding_10 (rec10 : Int32 → (Nat → Int32) → Int32 → (Nat → Int32) → Option ((Nat → Int32))) (x1 : Int32) (lab : Nat → Int32) (cc : Int32) (sd : Nat → Int32) : Option ((Nat → Int32)) :=
  (if ((4 : Int32) * cc) ≤ x1 then some (sd) else (if inb x1 40 then (if inb (lab x1.toNatClampNeg) 100 then (if inb (lab x1.toNatClampNeg) 100 then rec10 (x1 + 1) lab cc (upd sd (lab x1.toNatClampNeg).toNatClampNeg ((sd (lab x1.toNatClampNeg).toNatClampNeg) + (1 : Int32))) else none) else none) else none))
def L_B_countStanding_10 : Nat → Int32 → (Nat → Int32) → Int32 → (Nat → Int32) → Option ((Nat → Int32))
  | 0 => fun _ _ _ _ => none
  | n + 1 => J_B_countStanding_10 (L_B_countStanding_10 n)
def J_B_countStanding_0 (lab : Nat → Int32) (cc : Int32) (sd : Nat → Int32) : Option ((Nat → Int32)) :=
  L_B_countStanding_10 fu (0 : Int32) lab cc (fun _ => (0 : Int32))
def F_B_countStanding (lab : Nat → Int32) (cc : Int32) (sd : Nat → Int32) : Option ((Nat → Int32)) := J_B_countStanding_0 lab cc sd
def H_B_countStanding_10 (p : Program) (l : Launch) (e : Env) (s : State) (m : MethodId) (args : Array Value) (below : List Frame) (meth : Method) (c : Code) (D : va_G) (A : Nat → Prop) (a : Nat → Nat) (k : Nat → ClassId) (sg : Nat → Int32) (ci : Int32) (od : Nat → Int32) (go : Nat → Int32) (ta : Nat → Int32) (we : Int32) (oe : Nat → Int32) (fp : Nat → Int32) (ro : Nat → Int64) (sp : Nat → Int64) (qr : Nat) (qs : Nat) (f : Int32 → (Nat → Int32) → Int32 → (Nat → Int32) → Option ((Nat → Int32))) : Prop := ∀ (x1 : Int32) (lab : Nat → Int32) (cc : Int32) (sd : Nat → Int32) (r : (Nat → Int32)), f x1 lab cc sd = some r → ∀ (H : Heap) (locs : List Loc) (ls : Array Slot), va_P D classes (wB a k lab sg cc ci od sd go ta we oe fp ro sp qr qs) H → va_D A (wB a k lab sg cc ci od sd go ta we oe fp ro sp qr qs) → va_S A s.heap H locs → lv_has ls 2 [(0, .ref (a 0)), (1, .int x1)] → W p l e (rm_B_countStanding) s m args below meth c H locs 0 0 (MQ below (qc_B_countStanding D A a k lab sg cc ci od go ta we oe fp ro sp qr qs r) args s 0 0 A) (F0 m 10 ls [])
def H_B_countStanding_0 (p : Program) (l : Launch) (e : Env) (s : State) (m : MethodId) (args : Array Value) (below : List Frame) (meth : Method) (c : Code) (D : va_G) (A : Nat → Prop) (a : Nat → Nat) (k : Nat → ClassId) (sg : Nat → Int32) (ci : Int32) (od : Nat → Int32) (go : Nat → Int32) (ta : Nat → Int32) (we : Int32) (oe : Nat → Int32) (fp : Nat → Int32) (ro : Nat → Int64) (sp : Nat → Int64) (qr : Nat) (qs : Nat) (f : (Nat → Int32) → Int32 → (Nat → Int32) → Option ((Nat → Int32))) : Prop := ∀ (lab : Nat → Int32) (cc : Int32) (sd : Nat → Int32) (r : (Nat → Int32)), f lab cc sd = some r → ∀ (H : Heap) (locs : List Loc) (ls : Array Slot), va_P D classes (wB a k lab sg cc ci od sd go ta we oe fp ro sp qr qs) H → va_D A (wB a k lab sg cc ci od sd go ta we oe fp ro sp qr qs) → va_S A s.heap H locs → lv_has ls 2 [(0, .ref (a 0))] → W p l e (rm_B_countStanding) s m args below meth c H locs 0 0 (MQ below (qc_B_countStanding D A a k lab sg cc ci od go ta we oe fp ro sp qr qs r) args s 0 0 A) (F0 m 0 ls [])
set_option maxHeartbeats 4000000 in
set_option maxRecDepth 100000 in
theorem k_B_countStanding_10 {p : Program} {l : Launch} {e : Env} {s : State} {m : MethodId} {args : Array Value} {below : List Frame} {meth : Method} {c : Code} {D : va_G} {A : Nat → Prop} {a : Nat → Nat} {k : Nat → ClassId} {sg : Nat → Int32} {ci : Int32} {od : Nat → Int32} {go : Nat → Int32} {ta : Nat → Int32} {we : Int32} {oe : Nat → Int32} {fp : Nat → Int32} {ro : Nat → Int64} {sp : Nat → Int64} {qr : Nat} {qs : Nat} {rec10 : Int32 → (Nat → Int32) → Int32 → (Nat → Int32) → Option ((Nat → Int32))} (C : cx D [(k 1, .int), (k 2, .int), (k 3, .int), (k 4, .int), (k 5, .boolean), (k 6, .int), (k 8, .int), (k 9, .int), (k 11, .long)] R_B b_B_countStanding 2 none A p s m args meth c) (hrec10 : H_B_countStanding_10 p l e s m args below meth c D A a k sg ci od go ta we oe fp ro sp qr qs rec10) : H_B_countStanding_10 p l e s m args below meth c D A a k sg ci od go ta we oe fp ro sp qr qs (J_B_countStanding_10 rec10) := by
  obtain ⟨hx, hb, hr, hml, hown, ht, hlk, hA, hK⟩ := id C
  intro x1 lab cc sd r h H locs ls hP hD hS hl
  unfold J_B_countStanding_10 at h
  refine lv_iload_n hx hb d_B_countStanding_10 rfl (lv_at hl 1 rfl) ?_
  refine lv_iconst (v := 4) hx hb d_B_countStanding_11 (by decide) ?_
  refine lv_aload_n hx hb d_B_countStanding_12 rfl (lv_at hl 0 rfl) ?_
  refine va_get (D := D) (ci := 0) (v := .int cc) (C := R_B) (T := F_B) (N := 11) hx hb ht iC_B hown hK hP 0 rfl rfl 2 (by decide) (ht _ ix_38) (fun _ h9 => h9) rfl d_B_countStanding_13 ?_
  refine lv_imul hx hb d_B_countStanding_16 ?_
  refine lv_icmp_ge (tgt := 41) hx hb d_B_countStanding_17 (by decide) (fun c_1 => ?_) (fun c_1 => ?_)
  · have h := ite_T c_1 h
    cases h
    exact W.vret hx hb hr (fun t ht hW => ⟨⟨(), rfl, trivial, by rw [ht]; exact hP, va_K.moved hW.alike hK, hD⟩, hS.F ht⟩) hS.2.2 d_B_countStanding_41 hlk
  · have h := ite_F c_1 h
    refine lv_aload_n hx hb d_B_countStanding_20 rfl (lv_at hl 0 rfl) ?_
    refine va_get (D := D) (ci := 0) (v := .ref (a 4)) (C := R_B) (T := F_B) (N := 11) hx hb ht iC_B hown hK hP 0 rfl rfl 5 (by decide) (ht _ ix_41) (fun _ h9 => h9) rfl d_B_countStanding_21 ?_
    refine lv_aload_n hx hb d_B_countStanding_24 rfl (lv_at hl 0 rfl) ?_
    refine va_get (D := D) (ci := 0) (v := .ref (a 1)) (C := R_B) (T := F_B) (N := 11) hx hb ht iC_B hown hK hP 0 rfl rfl 0 (by decide) (ht _ ix_43) (fun _ h9 => h9) rfl d_B_countStanding_25 ?_
    refine lv_iload_n hx hb d_B_countStanding_28 rfl (lv_at hl 1 rfl) ?_
    obtain ⟨g_2, h⟩ := gd_some h
    refine va_iald hx hb hK hP 1 0 rfl rfl (inb_in g_2) d_B_countStanding_29 ?_
    refine lv_dup2_11 hx hb d_B_countStanding_30 rfl rfl ?_
    obtain ⟨g_3, h⟩ := gd_some h
    refine va_iald hx hb hK hP 4 3 rfl rfl (inb_in g_3) d_B_countStanding_31 ?_
    refine lv_iconst (v := 1) hx hb d_B_countStanding_32 (by decide) ?_
    refine lv_iadd hx hb d_B_countStanding_33 ?_
    obtain ⟨g_4, h⟩ := gd_some h
    refine va_iast hx hb hK hP hD hS 4 3 rfl rfl (inb_in g_4) d_B_countStanding_34 (fun H locs hP hD hS => ?_)
    have hP : va_P D classes (wB a k lab sg cc ci od (upd sd (lab x1.toNatClampNeg).toNatClampNeg ((sd (lab x1.toNatClampNeg).toNatClampNeg) + (1 : Int32))) go ta we oe fp ro sp qr qs) H := hP
    have hD : va_D A (wB a k lab sg cc ci od (upd sd (lab x1.toNatClampNeg).toNatClampNeg ((sd (lab x1.toNatClampNeg).toNatClampNeg) + (1 : Int32))) go ta we oe fp ro sp qr qs) := hD
    refine lv_iinc (v := x1 + 1) (lv' := [(1, .int (x1 + 1)), (0, .ref (a 0))]) hx hb d_B_countStanding_35 hl (k := 1) rfl rfl (by decide) rfl (fun ls hl => ?_)
    refine lv_goto (tgt := 10) hx hb d_B_countStanding_38 (by decide) ?_
    exact hrec10 _ _ _ _ _ h _ _ _ hP hD hS (lv_sub hl [1, 0] rfl)
theorem k_B_countStanding_10_L {p : Program} {l : Launch} {e : Env} {s : State} {m : MethodId} {args : Array Value} {below : List Frame} {meth : Method} {c : Code} {D : va_G} {A : Nat → Prop} {a : Nat → Nat} {k : Nat → ClassId} {sg : Nat → Int32} {ci : Int32} {od : Nat → Int32} {go : Nat → Int32} {ta : Nat → Int32} {we : Int32} {oe : Nat → Int32} {fp : Nat → Int32} {ro : Nat → Int64} {sp : Nat → Int64} {qr : Nat} {qs : Nat} (C : cx D [(k 1, .int), (k 2, .int), (k 3, .int), (k 4, .int), (k 5, .boolean), (k 6, .int), (k 8, .int), (k 9, .int), (k 11, .long)] R_B b_B_countStanding 2 none A p s m args meth c) : ∀ n : Nat, H_B_countStanding_10 p l e s m args below meth c D A a k sg ci od go ta we oe fp ro sp qr qs (L_B_countStanding_10 n)
  | 0 => fun _ _ _ _ _ h => nomatch h
  | n + 1 => k_B_countStanding_10 C (k_B_countStanding_10_L C n)
set_option maxHeartbeats 4000000 in
set_option maxRecDepth 100000 in
theorem k_B_countStanding_0 {p : Program} {l : Launch} {e : Env} {s : State} {m : MethodId} {args : Array Value} {below : List Frame} {meth : Method} {c : Code} {D : va_G} {A : Nat → Prop} {a : Nat → Nat} {k : Nat → ClassId} {sg : Nat → Int32} {ci : Int32} {od : Nat → Int32} {go : Nat → Int32} {ta : Nat → Int32} {we : Int32} {oe : Nat → Int32} {fp : Nat → Int32} {ro : Nat → Int64} {sp : Nat → Int64} {qr : Nat} {qs : Nat} (C : cx D [(k 1, .int), (k 2, .int), (k 3, .int), (k 4, .int), (k 5, .boolean), (k 6, .int), (k 8, .int), (k 9, .int), (k 11, .long)] R_B b_B_countStanding 2 none A p s m args meth c) : H_B_countStanding_0 p l e s m args below meth c D A a k sg ci od go ta we oe fp ro sp qr qs (J_B_countStanding_0) := by
  obtain ⟨hx, hb, hr, hml, hown, ht, hlk, hA, hK⟩ := id C
  intro lab cc sd r h H locs ls hP hD hS hl
  unfold J_B_countStanding_0 at h
  refine lv_aload_n hx hb d_B_countStanding_0 rfl (lv_at hl 0 rfl) ?_
  refine va_get (D := D) (ci := 0) (v := .ref (a 4)) (C := R_B) (T := F_B) (N := 11) hx hb ht iC_B hown hK hP 0 rfl rfl 5 (by decide) (ht _ ix_41) (fun _ h9 => h9) rfl d_B_countStanding_1 ?_
  refine lv_iconst (v := 0) hx hb d_B_countStanding_4 (by decide) ?_
  refine go_Sv (As := [.ref (a 4), .int (0 : Int32)]) (rest := []) (wc := [((a 4), .inl (k 4, 100, .inl sd))]) (wr := [((a 0), .inr (0, [.ref (a 1), .ref (a 2), .int cc, .int ci, .ref (a 3), .ref (a 4), .ref (a 5), .ref (a 6), .ref (a 7), .ref (a 10), .int we])), ((a 1), .inl (k 1, 40, .inl lab)), ((a 2), .inl (k 2, 10, .inl sg)), ((a 3), .inl (k 3, 10, .inl od)), ((a 5), .inl (k 5, 10, .inl go)), ((a 6), .inl (k 6, 330, .inl ta)), ((a 7), .inr (1, [.ref (a 8), .ref (a 9)])), ((a 8), .inl (k 8, 40, .inl oe)), ((a 9), .inl (k 9, 100, .inl fp)), ((a 10), .inr (2, [.ref qr, .ref qs])), (qr, .inl (k 11, 133, .inr (.inl ro))), (qs, .inl (k 11, 133, .inr (.inl sp)))]) (w1 := [((a 4), .inl (k 4, 100, .inl (fun _ => (0 : Int32))))]) (w2 := (wB a k lab sg cc ci od (fun _ => (0 : Int32)) go ta we oe fp ro sp qr qs)) (tc := [(k 4, .int)]) hx hb hml hown ht (c_fillI l D (a 4) (k 4) 100 H.size sd (0 : Int32) (by decide)) g_B_134 ⟨rfl, rfl⟩ (n := 2) (by decide +kernel) ⟨(Nat.le_of_ble_eq_true rfl), (Nat.le_of_ble_eq_true rfl)⟩ hP hD hK hS hA ⟨Nat.zero_le _, Nat.zero_le _⟩ [4] [0, 1, 2, 3, 5, 6, 7, 8, 9, 10, 11, 12] [3] [0, 1, 2, 3, 12, 4, 5, 6, 7, 8, 9, 10, 11] rfl rfl rfl rfl (by decide) (by decide) (by decide) rfl (by decide) rfl rfl hl.1 (Nat.le_of_ble_eq_true rfl) d_B_countStanding_5 (fun H locs hP hD hS => ?_)
  refine lv_iconst (v := 0) hx hb d_B_countStanding_8 (by decide) ?_
  refine lv_istore_n (lv' := [(1, .int (0 : Int32)), (0, .ref (a 0))]) hx hb d_B_countStanding_9 rfl hl (by decide) rfl (fun ls hl => ?_)
  exact (k_B_countStanding_10_L C fu) _ _ _ _ _ h _ _ _ hP hD hS (lv_sub hl [1, 0] rfl)
set_option maxRecDepth 20000 in
theorem c_B_countStanding (l : Launch) (D : va_G) (a : Nat → Nat) (k : Nat → ClassId) (sz : Nat) (lab : Nat → Int32) (sg : Nat → Int32) (cc : Int32) (ci : Int32) (od : Nat → Int32) (sd : Nat → Int32) (go : Nat → Int32) (ta : Nat → Int32) (we : Int32) (oe : Nat → Int32) (fp : Nat → Int32) (ro : Nat → Int64) (sp : Nat → Int64) (qr : Nat) (qs : Nat) (r : (Nat → Int32)) (h : F_B_countStanding lab cc sd = some r) : Met l y_B_countStanding (Cond.code y_B_countStanding b_B_countStanding 2 none :: lw_g) (rm_B_countStanding) (va_Pc [.ref (a 0)] (pcW D [(k 1, .int), (k 2, .int), (k 3, .int), (k 4, .int), (k 5, .boolean), (k 6, .int), (k 8, .int), (k 9, .int), (k 11, .long)] (wB a k lab sg cc ci od sd go ta we oe fp ro sp qr qs) sz)) (qc_B_countStanding D (va_A (wB a k lab sg cc ci od sd go ta we oe fp ro sp qr qs) sz) a k lab sg cc ci od go ta we oe fp ro sp qr qs r) 0 0 (va_A (wB a k lab sg cc ci od sd go ta we oe fp ro sp qr qs) sz) := by
  refine Met.ofW (cc := b_B_countStanding) (maxL := 2) (ret := none) (by decide) rfl ?_
  intro p e s m args below meth c s₁ B hml hv
  obtain ⟨rfl, hsz, hP, hK, hD0⟩ := hv
  have hts := atoms_spec (ws := Cond.code y_B_countStanding b_B_countStanding 2 none :: lw_g) B.pre
  subst hsz
  have hD := hD0.self (sz := s.heap.size)
  have hl := lv_entry ([.ref (a 0)]) (n := 2) (Nat.le_of_ble_eq_true rfl)
  rw [lg_entry_eq]
  generalize (lg_sl ([.ref (a 0)]) ++ List.replicate (2 - (lg_sl ([.ref (a 0)])).length) Slot.unset).toArray = ls at hl ⊢
  exact k_B_countStanding_0 ⟨B.exec, B.bytes, B.returns, hml, findClass_of_methodNamed B.named, fun w hw => hts w (List.mem_cons_of_mem _ hw), B.notSynchronized, fun q h => Or.inr h, hK⟩ _ _ _ _ h _ _ _ hP hD va_S.rf hl

def rm_B_fault : Room := { frames := 2, cells := 0, slots := 0, locals := 44 }
def qc_B_fault (D : va_G) (A : Nat → Prop) (a : Nat → Nat) (k : Nat → ClassId) (lab : Nat → Int32) (sg : Nat → Int32) (cc : Int32) (ci : Int32) (od : Nat → Int32) (go : Nat → Int32) (ta : Nat → Int32) (we : Int32) (oe : Nat → Int32) (fp : Nat → Int32) (ro : Nat → Int64) (sp : Nat → Int64) (qr : Nat) (qs : Nat) (r : Int32 × (Nat → Int32)) : Array Value → State → Outcome → State → Prop := va_Qi (fun (r1 : Int32) (_ : Unit) => r1 = r.1) (poW D [(k 1, .int), (k 2, .int), (k 3, .int), (k 4, .int), (k 5, .boolean), (k 6, .int), (k 8, .int), (k 9, .int), (k 11, .long)] (wB a k lab sg cc ci od r.2 go ta we oe fp ro sp qr qs) A) A
def J_B_fault_6 (rec6 : Int32 → (Nat → Int32) → Int32 → (Nat → Int32) → Option (Int32 × (Nat → Int32))) (x1 : Int32) (lab : Nat → Int32) (cc : Int32) (sd : Nat → Int32) : Option (Int32 × (Nat → Int32)) :=
  (if (99 : Int32) < x1 then some ((0 : Int32), sd) else (if inb x1 100 then (if (sd x1.toNatClampNeg) = 0 then rec6 (x1 + 1) lab cc sd else (if inb x1 100 then (if (sd x1.toNatClampNeg) = (2 : Int32) then rec6 (x1 + 1) lab cc sd else some (x1, sd)) else none)) else none))
def L_B_fault_6 : Nat → Int32 → (Nat → Int32) → Int32 → (Nat → Int32) → Option (Int32 × (Nat → Int32))
  | 0 => fun _ _ _ _ => none
  | n + 1 => J_B_fault_6 (L_B_fault_6 n)
def J_B_fault_0 (lab : Nat → Int32) (cc : Int32) (sd : Nat → Int32) : Option (Int32 × (Nat → Int32)) :=
  (Option.bind (F_B_countStanding lab cc sd) (fun v_1 => L_B_fault_6 fu (1 : Int32) lab cc v_1))
def F_B_fault (lab : Nat → Int32) (cc : Int32) (sd : Nat → Int32) : Option (Int32 × (Nat → Int32)) := J_B_fault_0 lab cc sd
def H_B_fault_6 (p : Program) (l : Launch) (e : Env) (s : State) (m : MethodId) (args : Array Value) (below : List Frame) (meth : Method) (c : Code) (D : va_G) (A : Nat → Prop) (a : Nat → Nat) (k : Nat → ClassId) (sg : Nat → Int32) (ci : Int32) (od : Nat → Int32) (go : Nat → Int32) (ta : Nat → Int32) (we : Int32) (oe : Nat → Int32) (fp : Nat → Int32) (ro : Nat → Int64) (sp : Nat → Int64) (qr : Nat) (qs : Nat) (f : Int32 → (Nat → Int32) → Int32 → (Nat → Int32) → Option (Int32 × (Nat → Int32))) : Prop := ∀ (x1 : Int32) (lab : Nat → Int32) (cc : Int32) (sd : Nat → Int32) (r : Int32 × (Nat → Int32)), f x1 lab cc sd = some r → ∀ (H : Heap) (locs : List Loc) (ls : Array Slot), va_P D classes (wB a k lab sg cc ci od sd go ta we oe fp ro sp qr qs) H → va_D A (wB a k lab sg cc ci od sd go ta we oe fp ro sp qr qs) → va_S A s.heap H locs → lv_has ls 2 [(0, .ref (a 0)), (1, .int x1)] → W p l e (rm_B_fault) s m args below meth c H locs 0 0 (MQ below (qc_B_fault D A a k lab sg cc ci od go ta we oe fp ro sp qr qs r) args s 0 0 A) (F0 m 6 ls [])
def H_B_fault_0 (p : Program) (l : Launch) (e : Env) (s : State) (m : MethodId) (args : Array Value) (below : List Frame) (meth : Method) (c : Code) (D : va_G) (A : Nat → Prop) (a : Nat → Nat) (k : Nat → ClassId) (sg : Nat → Int32) (ci : Int32) (od : Nat → Int32) (go : Nat → Int32) (ta : Nat → Int32) (we : Int32) (oe : Nat → Int32) (fp : Nat → Int32) (ro : Nat → Int64) (sp : Nat → Int64) (qr : Nat) (qs : Nat) (f : (Nat → Int32) → Int32 → (Nat → Int32) → Option (Int32 × (Nat → Int32))) : Prop := ∀ (lab : Nat → Int32) (cc : Int32) (sd : Nat → Int32) (r : Int32 × (Nat → Int32)), f lab cc sd = some r → ∀ (H : Heap) (locs : List Loc) (ls : Array Slot), va_P D classes (wB a k lab sg cc ci od sd go ta we oe fp ro sp qr qs) H → va_D A (wB a k lab sg cc ci od sd go ta we oe fp ro sp qr qs) → va_S A s.heap H locs → lv_has ls 2 [(0, .ref (a 0))] → W p l e (rm_B_fault) s m args below meth c H locs 0 0 (MQ below (qc_B_fault D A a k lab sg cc ci od go ta we oe fp ro sp qr qs r) args s 0 0 A) (F0 m 0 ls [])
set_option maxHeartbeats 4000000 in
set_option maxRecDepth 100000 in
theorem k_B_fault_6 {p : Program} {l : Launch} {e : Env} {s : State} {m : MethodId} {args : Array Value} {below : List Frame} {meth : Method} {c : Code} {D : va_G} {A : Nat → Prop} {a : Nat → Nat} {k : Nat → ClassId} {sg : Nat → Int32} {ci : Int32} {od : Nat → Int32} {go : Nat → Int32} {ta : Nat → Int32} {we : Int32} {oe : Nat → Int32} {fp : Nat → Int32} {ro : Nat → Int64} {sp : Nat → Int64} {qr : Nat} {qs : Nat} {rec6 : Int32 → (Nat → Int32) → Int32 → (Nat → Int32) → Option (Int32 × (Nat → Int32))} (C : cx D [(k 1, .int), (k 2, .int), (k 3, .int), (k 4, .int), (k 5, .boolean), (k 6, .int), (k 8, .int), (k 9, .int), (k 11, .long)] R_B b_B_fault 2 (some .int) A p s m args meth c) (hrec6 : H_B_fault_6 p l e s m args below meth c D A a k sg ci od go ta we oe fp ro sp qr qs rec6) : H_B_fault_6 p l e s m args below meth c D A a k sg ci od go ta we oe fp ro sp qr qs (J_B_fault_6 rec6) := by
  obtain ⟨hx, hb, hr, hml, hown, ht, hlk, hA, hK⟩ := id C
  intro x1 lab cc sd r h H locs ls hP hD hS hl
  unfold J_B_fault_6 at h
  refine lv_iload_n hx hb d_B_fault_6 rfl (lv_at hl 1 rfl) ?_
  refine lv_bipush (v := 99) hx hb d_B_fault_7 (by decide) ?_
  refine lv_icmp_gt (tgt := 39) hx hb d_B_fault_9 (by decide) (fun c_1 => ?_) (fun c_1 => ?_)
  · have h := ite_T c_1 h
    refine lv_iconst (v := 0) hx hb d_B_fault_39 (by decide) ?_
    cases h
    exact W.iret hx hb hr (fun t ht hW => ⟨⟨_, (), rfl, rfl, by rw [ht]; exact hP, va_K.moved hW.alike hK, hD⟩, hS.F ht⟩) hS.2.2 d_B_fault_40 hlk
  · have h := ite_F c_1 h
    refine lv_aload_n hx hb d_B_fault_12 rfl (lv_at hl 0 rfl) ?_
    refine va_get (D := D) (ci := 0) (v := .ref (a 4)) (C := R_B) (T := F_B) (N := 11) hx hb ht iC_B hown hK hP 0 rfl rfl 5 (by decide) (ht _ ix_41) (fun _ h9 => h9) rfl d_B_fault_13 ?_
    refine lv_iload_n hx hb d_B_fault_16 rfl (lv_at hl 1 rfl) ?_
    obtain ⟨g_2, h⟩ := gd_some h
    refine va_iald hx hb hK hP 4 3 rfl rfl (inb_in g_2) d_B_fault_17 ?_
    refine lv_if_eq (tgt := 33) hx hb d_B_fault_18 (by decide) (fun c_3 => ?_) (fun c_3 => ?_)
    · have h := ite_T c_3 h
      refine lv_iinc (v := x1 + 1) (lv' := [(1, .int (x1 + 1)), (0, .ref (a 0))]) hx hb d_B_fault_33 hl (k := 1) rfl rfl (by decide) rfl (fun ls hl => ?_)
      refine lv_goto (tgt := 6) hx hb d_B_fault_36 (by decide) ?_
      exact hrec6 _ _ _ _ _ h _ _ _ hP hD hS (lv_sub hl [1, 0] rfl)
    · have h := ite_F c_3 h
      refine lv_aload_n hx hb d_B_fault_21 rfl (lv_at hl 0 rfl) ?_
      refine va_get (D := D) (ci := 0) (v := .ref (a 4)) (C := R_B) (T := F_B) (N := 11) hx hb ht iC_B hown hK hP 0 rfl rfl 5 (by decide) (ht _ ix_41) (fun _ h9 => h9) rfl d_B_fault_22 ?_
      refine lv_iload_n hx hb d_B_fault_25 rfl (lv_at hl 1 rfl) ?_
      obtain ⟨g_4, h⟩ := gd_some h
      refine va_iald hx hb hK hP 4 3 rfl rfl (inb_in g_4) d_B_fault_26 ?_
      refine lv_iconst (v := 2) hx hb d_B_fault_27 (by decide) ?_
      refine lv_icmp_eq (tgt := 33) hx hb d_B_fault_28 (by decide) (fun c_5 => ?_) (fun c_5 => ?_)
      · have h := ite_T c_5 h
        refine lv_iinc (v := x1 + 1) (lv' := [(1, .int (x1 + 1)), (0, .ref (a 0))]) hx hb d_B_fault_33 hl (k := 1) rfl rfl (by decide) rfl (fun ls hl => ?_)
        refine lv_goto (tgt := 6) hx hb d_B_fault_36 (by decide) ?_
        exact hrec6 _ _ _ _ _ h _ _ _ hP hD hS (lv_sub hl [1, 0] rfl)
      · have h := ite_F c_5 h
        refine lv_iload_n hx hb d_B_fault_31 rfl (lv_at hl 1 rfl) ?_
        cases h
        exact W.iret hx hb hr (fun t ht hW => ⟨⟨_, (), rfl, rfl, by rw [ht]; exact hP, va_K.moved hW.alike hK, hD⟩, hS.F ht⟩) hS.2.2 d_B_fault_32 hlk
theorem k_B_fault_6_L {p : Program} {l : Launch} {e : Env} {s : State} {m : MethodId} {args : Array Value} {below : List Frame} {meth : Method} {c : Code} {D : va_G} {A : Nat → Prop} {a : Nat → Nat} {k : Nat → ClassId} {sg : Nat → Int32} {ci : Int32} {od : Nat → Int32} {go : Nat → Int32} {ta : Nat → Int32} {we : Int32} {oe : Nat → Int32} {fp : Nat → Int32} {ro : Nat → Int64} {sp : Nat → Int64} {qr : Nat} {qs : Nat} (C : cx D [(k 1, .int), (k 2, .int), (k 3, .int), (k 4, .int), (k 5, .boolean), (k 6, .int), (k 8, .int), (k 9, .int), (k 11, .long)] R_B b_B_fault 2 (some .int) A p s m args meth c) : ∀ n : Nat, H_B_fault_6 p l e s m args below meth c D A a k sg ci od go ta we oe fp ro sp qr qs (L_B_fault_6 n)
  | 0 => fun _ _ _ _ _ h => nomatch h
  | n + 1 => k_B_fault_6 C (k_B_fault_6_L C n)
set_option maxHeartbeats 4000000 in
set_option maxRecDepth 100000 in
theorem k_B_fault_0 {p : Program} {l : Launch} {e : Env} {s : State} {m : MethodId} {args : Array Value} {below : List Frame} {meth : Method} {c : Code} {D : va_G} {A : Nat → Prop} {a : Nat → Nat} {k : Nat → ClassId} {sg : Nat → Int32} {ci : Int32} {od : Nat → Int32} {go : Nat → Int32} {ta : Nat → Int32} {we : Int32} {oe : Nat → Int32} {fp : Nat → Int32} {ro : Nat → Int64} {sp : Nat → Int64} {qr : Nat} {qs : Nat} (C : cx D [(k 1, .int), (k 2, .int), (k 3, .int), (k 4, .int), (k 5, .boolean), (k 6, .int), (k 8, .int), (k 9, .int), (k 11, .long)] R_B b_B_fault 2 (some .int) A p s m args meth c) : H_B_fault_0 p l e s m args below meth c D A a k sg ci od go ta we oe fp ro sp qr qs (J_B_fault_0) := by
  obtain ⟨hx, hb, hr, hml, hown, ht, hlk, hA, hK⟩ := id C
  intro lab cc sd r h H locs ls hP hD hS hl
  unfold J_B_fault_0 at h
  refine lv_aload_n hx hb d_B_fault_0 rfl (lv_at hl 0 rfl) ?_
  obtain ⟨v_1, e_1, h⟩ := bd_some h
  refine go_Vv (As := []) (rest := []) (wc := (wB a k lab sg cc ci od sd go ta we oe fp ro sp qr qs)) (wr := []) (w1 := (wB a k lab sg cc ci od v_1 go ta we oe fp ro sp qr qs)) (w2 := (wB a k lab sg cc ci od v_1 go ta we oe fp ro sp qr qs)) (tc := [(k 1, .int), (k 2, .int), (k 3, .int), (k 4, .int), (k 5, .boolean), (k 6, .int), (k 8, .int), (k 9, .int), (k 11, .long)]) hx hb hml hown ht (c_B_countStanding l D a k H.size lab sg cc ci od sd go ta we oe fp ro sp qr qs v_1 e_1) g_B_61 ⟨rfl, rfl⟩ (n := 0) (by decide +kernel) ⟨(Nat.le_of_ble_eq_true rfl), (Nat.le_of_ble_eq_true rfl)⟩ hP hD hK hS hA ⟨Nat.zero_le _, Nat.zero_le _⟩ [0, 1, 2, 3, 4, 5, 6, 7, 8, 9, 10, 11, 12] [] [0, 1, 2, 3, 4, 5, 6, 7, 8] [0, 1, 2, 3, 4, 5, 6, 7, 8, 9, 10, 11, 12] rfl rfl rfl rfl (by decide) (by decide) (by decide) rfl (by decide) 0 rfl rfl rfl rfl rfl hl.1 (Nat.le_of_ble_eq_true rfl) d_B_fault_1 (fun H locs hP hD hS => ?_)
  refine lv_iconst (v := 1) hx hb d_B_fault_4 (by decide) ?_
  refine lv_istore_n (lv' := [(1, .int (1 : Int32)), (0, .ref (a 0))]) hx hb d_B_fault_5 rfl hl (by decide) rfl (fun ls hl => ?_)
  exact (k_B_fault_6_L C fu) _ _ _ _ _ h _ _ _ hP hD hS (lv_sub hl [1, 0] rfl)
set_option maxRecDepth 20000 in
theorem c_B_fault (l : Launch) (D : va_G) (a : Nat → Nat) (k : Nat → ClassId) (sz : Nat) (lab : Nat → Int32) (sg : Nat → Int32) (cc : Int32) (ci : Int32) (od : Nat → Int32) (sd : Nat → Int32) (go : Nat → Int32) (ta : Nat → Int32) (we : Int32) (oe : Nat → Int32) (fp : Nat → Int32) (ro : Nat → Int64) (sp : Nat → Int64) (qr : Nat) (qs : Nat) (r : Int32 × (Nat → Int32)) (h : F_B_fault lab cc sd = some r) : Met l y_B_fault (Cond.code y_B_fault b_B_fault 2 (some .int) :: lw_g) (rm_B_fault) (va_Pc [.ref (a 0)] (pcW D [(k 1, .int), (k 2, .int), (k 3, .int), (k 4, .int), (k 5, .boolean), (k 6, .int), (k 8, .int), (k 9, .int), (k 11, .long)] (wB a k lab sg cc ci od sd go ta we oe fp ro sp qr qs) sz)) (qc_B_fault D (va_A (wB a k lab sg cc ci od sd go ta we oe fp ro sp qr qs) sz) a k lab sg cc ci od go ta we oe fp ro sp qr qs r) 0 0 (va_A (wB a k lab sg cc ci od sd go ta we oe fp ro sp qr qs) sz) := by
  refine Met.ofW (cc := b_B_fault) (maxL := 2) (ret := (some .int)) (by decide) rfl ?_
  intro p e s m args below meth c s₁ B hml hv
  obtain ⟨rfl, hsz, hP, hK, hD0⟩ := hv
  have hts := atoms_spec (ws := Cond.code y_B_fault b_B_fault 2 (some .int) :: lw_g) B.pre
  subst hsz
  have hD := hD0.self (sz := s.heap.size)
  have hl := lv_entry ([.ref (a 0)]) (n := 2) (Nat.le_of_ble_eq_true rfl)
  rw [lg_entry_eq]
  generalize (lg_sl ([.ref (a 0)]) ++ List.replicate (2 - (lg_sl ([.ref (a 0)])).length) Slot.unset).toArray = ls at hl ⊢
  exact k_B_fault_0 ⟨B.exec, B.bytes, B.returns, hml, findClass_of_methodNamed B.named, fun w hw => hts w (List.mem_cons_of_mem _ hw), B.notSynchronized, fun q h => Or.inr h, hK⟩ _ _ _ _ h _ _ _ hP hD va_S.rf hl

def rm_B_isCode : Room := { frames := 3, cells := 0, slots := 0, locals := 65 }
def qc_B_isCode (D : va_G) (A : Nat → Prop) (a : Nat → Nat) (k : Nat → ClassId) (lab : Nat → Int32) (sg : Nat → Int32) (cc : Int32) (ci : Int32) (od : Nat → Int32) (go : Nat → Int32) (ta : Nat → Int32) (we : Int32) (oe : Nat → Int32) (fp : Nat → Int32) (ro : Nat → Int64) (sp : Nat → Int64) (qr : Nat) (qs : Nat) (r : Int32 × (Nat → Int32)) : Array Value → State → Outcome → State → Prop := va_Qi (fun (r1 : Int32) (_ : Unit) => r1 = r.1) (poW D [(k 1, .int), (k 2, .int), (k 3, .int), (k 4, .int), (k 5, .boolean), (k 6, .int), (k 8, .int), (k 9, .int), (k 11, .long)] (wB a k lab sg cc ci od r.2 go ta we oe fp ro sp qr qs) A) A
def J_B_isCode_0 (lab : Nat → Int32) (cc : Int32) (sd : Nat → Int32) : Option (Int32 × (Nat → Int32)) :=
  (Option.bind (F_B_fault lab cc sd) (fun v_1 => (if v_1.1 = 0 then some ((1 : Int32), v_1.2) else some ((0 : Int32), v_1.2))))
def F_B_isCode (lab : Nat → Int32) (cc : Int32) (sd : Nat → Int32) : Option (Int32 × (Nat → Int32)) := J_B_isCode_0 lab cc sd
def H_B_isCode_0 (p : Program) (l : Launch) (e : Env) (s : State) (m : MethodId) (args : Array Value) (below : List Frame) (meth : Method) (c : Code) (D : va_G) (A : Nat → Prop) (a : Nat → Nat) (k : Nat → ClassId) (sg : Nat → Int32) (ci : Int32) (od : Nat → Int32) (go : Nat → Int32) (ta : Nat → Int32) (we : Int32) (oe : Nat → Int32) (fp : Nat → Int32) (ro : Nat → Int64) (sp : Nat → Int64) (qr : Nat) (qs : Nat) (f : (Nat → Int32) → Int32 → (Nat → Int32) → Option (Int32 × (Nat → Int32))) : Prop := ∀ (lab : Nat → Int32) (cc : Int32) (sd : Nat → Int32) (r : Int32 × (Nat → Int32)), f lab cc sd = some r → ∀ (H : Heap) (locs : List Loc) (ls : Array Slot), va_P D classes (wB a k lab sg cc ci od sd go ta we oe fp ro sp qr qs) H → va_D A (wB a k lab sg cc ci od sd go ta we oe fp ro sp qr qs) → va_S A s.heap H locs → lv_has ls 1 [(0, .ref (a 0))] → W p l e (rm_B_isCode) s m args below meth c H locs 0 0 (MQ below (qc_B_isCode D A a k lab sg cc ci od go ta we oe fp ro sp qr qs r) args s 0 0 A) (F0 m 0 ls [])
set_option maxHeartbeats 4000000 in
set_option maxRecDepth 100000 in
theorem k_B_isCode_0 {p : Program} {l : Launch} {e : Env} {s : State} {m : MethodId} {args : Array Value} {below : List Frame} {meth : Method} {c : Code} {D : va_G} {A : Nat → Prop} {a : Nat → Nat} {k : Nat → ClassId} {sg : Nat → Int32} {ci : Int32} {od : Nat → Int32} {go : Nat → Int32} {ta : Nat → Int32} {we : Int32} {oe : Nat → Int32} {fp : Nat → Int32} {ro : Nat → Int64} {sp : Nat → Int64} {qr : Nat} {qs : Nat} (C : cx D [(k 1, .int), (k 2, .int), (k 3, .int), (k 4, .int), (k 5, .boolean), (k 6, .int), (k 8, .int), (k 9, .int), (k 11, .long)] R_B b_B_isCode 1 (some .boolean) A p s m args meth c) : H_B_isCode_0 p l e s m args below meth c D A a k sg ci od go ta we oe fp ro sp qr qs (J_B_isCode_0) := by
  obtain ⟨hx, hb, hr, hml, hown, ht, hlk, hA, hK⟩ := id C
  intro lab cc sd r h H locs ls hP hD hS hl
  unfold J_B_isCode_0 at h
  refine lv_aload_n hx hb d_B_isCode_0 rfl (lv_at hl 0 rfl) ?_
  obtain ⟨v_1, e_1, h⟩ := bd_some h
  refine go_Vi (r := v_1.1) (As := []) (rest := []) (wc := (wB a k lab sg cc ci od sd go ta we oe fp ro sp qr qs)) (wr := []) (w1 := (wB a k lab sg cc ci od v_1.2 go ta we oe fp ro sp qr qs)) (w2 := (wB a k lab sg cc ci od v_1.2 go ta we oe fp ro sp qr qs)) (tc := [(k 1, .int), (k 2, .int), (k 3, .int), (k 4, .int), (k 5, .boolean), (k 6, .int), (k 8, .int), (k 9, .int), (k 11, .long)]) hx hb hml hown ht (c_B_fault l D a k H.size lab sg cc ci od sd go ta we oe fp ro sp qr qs v_1 e_1) g_B_131 ⟨rfl, rfl⟩ (n := 0) (by decide +kernel) ⟨(Nat.le_of_ble_eq_true rfl), (Nat.le_of_ble_eq_true rfl)⟩ hP hD hK hS hA ⟨Nat.zero_le _, Nat.zero_le _⟩ [0, 1, 2, 3, 4, 5, 6, 7, 8, 9, 10, 11, 12] [] [0, 1, 2, 3, 4, 5, 6, 7, 8] [0, 1, 2, 3, 4, 5, 6, 7, 8, 9, 10, 11, 12] rfl rfl rfl rfl (by decide) (by decide) (by decide) rfl (by decide) 0 rfl rfl rfl rfl rfl hl.1 (Nat.le_of_ble_eq_true rfl) d_B_isCode_1 (fun H locs hP hD hS => ?_)
  refine lv_if_ne (tgt := 11) hx hb d_B_isCode_4 (by decide) (fun c_2 => ?_) (fun c_2 => ?_)
  · have h := ite_F c_2 h
    refine lv_iconst (v := 0) hx hb d_B_isCode_11 (by decide) ?_
    cases h
    exact W.zret hx hb hr rfl (fun t ht hW => ⟨⟨_, (), rfl, rfl, by rw [ht]; exact hP, va_K.moved hW.alike hK, hD⟩, hS.F ht⟩) hS.2.2 d_B_isCode_12 hlk
  · have h := ite_T c_2 h
    refine lv_iconst (v := 1) hx hb d_B_isCode_7 (by decide) ?_
    refine lv_goto (tgt := 12) hx hb d_B_isCode_8 (by decide) ?_
    cases h
    exact W.zret hx hb hr rfl (fun t ht hW => ⟨⟨_, (), rfl, rfl, by rw [ht]; exact hP, va_K.moved hW.alike hK, hD⟩, hS.F ht⟩) hS.2.2 d_B_isCode_12 hlk
set_option maxRecDepth 20000 in
theorem c_B_isCode (l : Launch) (D : va_G) (a : Nat → Nat) (k : Nat → ClassId) (sz : Nat) (lab : Nat → Int32) (sg : Nat → Int32) (cc : Int32) (ci : Int32) (od : Nat → Int32) (sd : Nat → Int32) (go : Nat → Int32) (ta : Nat → Int32) (we : Int32) (oe : Nat → Int32) (fp : Nat → Int32) (ro : Nat → Int64) (sp : Nat → Int64) (qr : Nat) (qs : Nat) (r : Int32 × (Nat → Int32)) (h : F_B_isCode lab cc sd = some r) : Met l y_B_isCode (Cond.code y_B_isCode b_B_isCode 1 (some .boolean) :: lw_g) (rm_B_isCode) (va_Pc [.ref (a 0)] (pcW D [(k 1, .int), (k 2, .int), (k 3, .int), (k 4, .int), (k 5, .boolean), (k 6, .int), (k 8, .int), (k 9, .int), (k 11, .long)] (wB a k lab sg cc ci od sd go ta we oe fp ro sp qr qs) sz)) (qc_B_isCode D (va_A (wB a k lab sg cc ci od sd go ta we oe fp ro sp qr qs) sz) a k lab sg cc ci od go ta we oe fp ro sp qr qs r) 0 0 (va_A (wB a k lab sg cc ci od sd go ta we oe fp ro sp qr qs) sz) := by
  refine Met.ofW (cc := b_B_isCode) (maxL := 1) (ret := (some .boolean)) (by decide) rfl ?_
  intro p e s m args below meth c s₁ B hml hv
  obtain ⟨rfl, hsz, hP, hK, hD0⟩ := hv
  have hts := atoms_spec (ws := Cond.code y_B_isCode b_B_isCode 1 (some .boolean) :: lw_g) B.pre
  subst hsz
  have hD := hD0.self (sz := s.heap.size)
  have hl := lv_entry ([.ref (a 0)]) (n := 1) (Nat.le_of_ble_eq_true rfl)
  rw [lg_entry_eq]
  generalize (lg_sl ([.ref (a 0)]) ++ List.replicate (1 - (lg_sl ([.ref (a 0)])).length) Slot.unset).toArray = ls at hl ⊢
  exact k_B_isCode_0 ⟨B.exec, B.bytes, B.returns, hml, findClass_of_methodNamed B.named, fun w hw => hts w (List.mem_cons_of_mem _ hw), B.notSynchronized, fun q h => Or.inr h, hK⟩ _ _ _ _ h _ _ _ hP hD va_S.rf hl

def rm_B_sumOfSigns : Room := { frames := 0, cells := 0, slots := 0, locals := 0 }
def qc_B_sumOfSigns (D : va_G) (A : Nat → Prop) (a : Nat → Nat) (k : Nat → ClassId) (lab : Nat → Int32) (sg : Nat → Int32) (cc : Int32) (ci : Int32) (od : Nat → Int32) (sd : Nat → Int32) (go : Nat → Int32) (ta : Nat → Int32) (we : Int32) (oe : Nat → Int32) (fp : Nat → Int32) (ro : Nat → Int64) (sp : Nat → Int64) (qr : Nat) (qs : Nat) (r : Int32) : Array Value → State → Outcome → State → Prop := va_Qi (fun (r1 : Int32) (_ : Unit) => r1 = r) (poW D [(k 1, .int), (k 2, .int), (k 3, .int), (k 4, .int), (k 5, .boolean), (k 6, .int), (k 8, .int), (k 9, .int), (k 11, .long)] (wB a k lab sg cc ci od sd go ta we oe fp ro sp qr qs) A) A
def J_B_sumOfSigns_4 (rec4 : Int32 → Int32 → (Nat → Int32) → Int32 → Option (Int32)) (x1 : Int32) (x2 : Int32) (sg : Nat → Int32) (cc : Int32) : Option (Int32) :=
  (if cc ≤ x2 then some (x1) else (if inb x2 10 then rec4 (x1 + (sg x2.toNatClampNeg)) (x2 + 1) sg cc else none))
def L_B_sumOfSigns_4 : Nat → Int32 → Int32 → (Nat → Int32) → Int32 → Option (Int32)
  | 0 => fun _ _ _ _ => none
  | n + 1 => J_B_sumOfSigns_4 (L_B_sumOfSigns_4 n)
def J_B_sumOfSigns_0 (sg : Nat → Int32) (cc : Int32) : Option (Int32) :=
  L_B_sumOfSigns_4 fu (0 : Int32) (0 : Int32) sg cc
def F_B_sumOfSigns (sg : Nat → Int32) (cc : Int32) : Option (Int32) := J_B_sumOfSigns_0 sg cc
def H_B_sumOfSigns_4 (p : Program) (l : Launch) (e : Env) (s : State) (m : MethodId) (args : Array Value) (below : List Frame) (meth : Method) (c : Code) (D : va_G) (A : Nat → Prop) (a : Nat → Nat) (k : Nat → ClassId) (lab : Nat → Int32) (ci : Int32) (od : Nat → Int32) (sd : Nat → Int32) (go : Nat → Int32) (ta : Nat → Int32) (we : Int32) (oe : Nat → Int32) (fp : Nat → Int32) (ro : Nat → Int64) (sp : Nat → Int64) (qr : Nat) (qs : Nat) (f : Int32 → Int32 → (Nat → Int32) → Int32 → Option (Int32)) : Prop := ∀ (x1 : Int32) (x2 : Int32) (sg : Nat → Int32) (cc : Int32) (r : Int32), f x1 x2 sg cc = some r → ∀ (H : Heap) (locs : List Loc) (ls : Array Slot), va_P D classes (wB a k lab sg cc ci od sd go ta we oe fp ro sp qr qs) H → va_D A (wB a k lab sg cc ci od sd go ta we oe fp ro sp qr qs) → va_S A s.heap H locs → lv_has ls 3 [(0, .ref (a 0)), (1, .int x1), (2, .int x2)] → W p l e (rm_B_sumOfSigns) s m args below meth c H locs 0 0 (MQ below (qc_B_sumOfSigns D A a k lab sg cc ci od sd go ta we oe fp ro sp qr qs r) args s 0 0 A) (F0 m 4 ls [])
def H_B_sumOfSigns_0 (p : Program) (l : Launch) (e : Env) (s : State) (m : MethodId) (args : Array Value) (below : List Frame) (meth : Method) (c : Code) (D : va_G) (A : Nat → Prop) (a : Nat → Nat) (k : Nat → ClassId) (lab : Nat → Int32) (ci : Int32) (od : Nat → Int32) (sd : Nat → Int32) (go : Nat → Int32) (ta : Nat → Int32) (we : Int32) (oe : Nat → Int32) (fp : Nat → Int32) (ro : Nat → Int64) (sp : Nat → Int64) (qr : Nat) (qs : Nat) (f : (Nat → Int32) → Int32 → Option (Int32)) : Prop := ∀ (sg : Nat → Int32) (cc : Int32) (r : Int32), f sg cc = some r → ∀ (H : Heap) (locs : List Loc) (ls : Array Slot), va_P D classes (wB a k lab sg cc ci od sd go ta we oe fp ro sp qr qs) H → va_D A (wB a k lab sg cc ci od sd go ta we oe fp ro sp qr qs) → va_S A s.heap H locs → lv_has ls 3 [(0, .ref (a 0))] → W p l e (rm_B_sumOfSigns) s m args below meth c H locs 0 0 (MQ below (qc_B_sumOfSigns D A a k lab sg cc ci od sd go ta we oe fp ro sp qr qs r) args s 0 0 A) (F0 m 0 ls [])
set_option maxHeartbeats 4000000 in
set_option maxRecDepth 100000 in
theorem k_B_sumOfSigns_4 {p : Program} {l : Launch} {e : Env} {s : State} {m : MethodId} {args : Array Value} {below : List Frame} {meth : Method} {c : Code} {D : va_G} {A : Nat → Prop} {a : Nat → Nat} {k : Nat → ClassId} {lab : Nat → Int32} {ci : Int32} {od : Nat → Int32} {sd : Nat → Int32} {go : Nat → Int32} {ta : Nat → Int32} {we : Int32} {oe : Nat → Int32} {fp : Nat → Int32} {ro : Nat → Int64} {sp : Nat → Int64} {qr : Nat} {qs : Nat} {rec4 : Int32 → Int32 → (Nat → Int32) → Int32 → Option (Int32)} (C : cx D [(k 1, .int), (k 2, .int), (k 3, .int), (k 4, .int), (k 5, .boolean), (k 6, .int), (k 8, .int), (k 9, .int), (k 11, .long)] R_B b_B_sumOfSigns 3 (some .int) A p s m args meth c) (hrec4 : H_B_sumOfSigns_4 p l e s m args below meth c D A a k lab ci od sd go ta we oe fp ro sp qr qs rec4) : H_B_sumOfSigns_4 p l e s m args below meth c D A a k lab ci od sd go ta we oe fp ro sp qr qs (J_B_sumOfSigns_4 rec4) := by
  obtain ⟨hx, hb, hr, hml, hown, ht, hlk, hA, hK⟩ := id C
  intro x1 x2 sg cc r h H locs ls hP hD hS hl
  unfold J_B_sumOfSigns_4 at h
  refine lv_iload_n hx hb d_B_sumOfSigns_4 rfl (lv_at hl 2 rfl) ?_
  refine lv_aload_n hx hb d_B_sumOfSigns_5 rfl (lv_at hl 0 rfl) ?_
  refine va_get (D := D) (ci := 0) (v := .int cc) (C := R_B) (T := F_B) (N := 11) hx hb ht iC_B hown hK hP 0 rfl rfl 2 (by decide) (ht _ ix_38) (fun _ h9 => h9) rfl d_B_sumOfSigns_6 ?_
  refine lv_icmp_ge (tgt := 27) hx hb d_B_sumOfSigns_9 (by decide) (fun c_1 => ?_) (fun c_1 => ?_)
  · have h := ite_T c_1 h
    refine lv_iload_n hx hb d_B_sumOfSigns_27 rfl (lv_at hl 1 rfl) ?_
    cases h
    exact W.iret hx hb hr (fun t ht hW => ⟨⟨_, (), rfl, rfl, by rw [ht]; exact hP, va_K.moved hW.alike hK, hD⟩, hS.F ht⟩) hS.2.2 d_B_sumOfSigns_28 hlk
  · have h := ite_F c_1 h
    refine lv_iload_n hx hb d_B_sumOfSigns_12 rfl (lv_at hl 1 rfl) ?_
    refine lv_aload_n hx hb d_B_sumOfSigns_13 rfl (lv_at hl 0 rfl) ?_
    refine va_get (D := D) (ci := 0) (v := .ref (a 2)) (C := R_B) (T := F_B) (N := 11) hx hb ht iC_B hown hK hP 0 rfl rfl 1 (by decide) (ht _ ix_53) (fun _ h9 => h9) rfl d_B_sumOfSigns_14 ?_
    refine lv_iload_n hx hb d_B_sumOfSigns_17 rfl (lv_at hl 2 rfl) ?_
    obtain ⟨g_2, h⟩ := gd_some h
    refine va_iald hx hb hK hP 2 1 rfl rfl (inb_in g_2) d_B_sumOfSigns_18 ?_
    refine lv_iadd hx hb d_B_sumOfSigns_19 ?_
    refine lv_istore_n (lv' := [(1, .int (x1 + (sg x2.toNatClampNeg))), (0, .ref (a 0)), (2, .int x2)]) hx hb d_B_sumOfSigns_20 rfl hl (by decide) rfl (fun ls hl => ?_)
    refine lv_iinc (v := x2 + 1) (lv' := [(2, .int (x2 + 1)), (1, .int (x1 + (sg x2.toNatClampNeg))), (0, .ref (a 0))]) hx hb d_B_sumOfSigns_21 hl (k := 2) rfl rfl (by decide) rfl (fun ls hl => ?_)
    refine lv_goto (tgt := 4) hx hb d_B_sumOfSigns_24 (by decide) ?_
    exact hrec4 _ _ _ _ _ h _ _ _ hP hD hS (lv_sub hl [2, 1, 0] rfl)
theorem k_B_sumOfSigns_4_L {p : Program} {l : Launch} {e : Env} {s : State} {m : MethodId} {args : Array Value} {below : List Frame} {meth : Method} {c : Code} {D : va_G} {A : Nat → Prop} {a : Nat → Nat} {k : Nat → ClassId} {lab : Nat → Int32} {ci : Int32} {od : Nat → Int32} {sd : Nat → Int32} {go : Nat → Int32} {ta : Nat → Int32} {we : Int32} {oe : Nat → Int32} {fp : Nat → Int32} {ro : Nat → Int64} {sp : Nat → Int64} {qr : Nat} {qs : Nat} (C : cx D [(k 1, .int), (k 2, .int), (k 3, .int), (k 4, .int), (k 5, .boolean), (k 6, .int), (k 8, .int), (k 9, .int), (k 11, .long)] R_B b_B_sumOfSigns 3 (some .int) A p s m args meth c) : ∀ n : Nat, H_B_sumOfSigns_4 p l e s m args below meth c D A a k lab ci od sd go ta we oe fp ro sp qr qs (L_B_sumOfSigns_4 n)
  | 0 => fun _ _ _ _ _ h => nomatch h
  | n + 1 => k_B_sumOfSigns_4 C (k_B_sumOfSigns_4_L C n)
set_option maxHeartbeats 4000000 in
set_option maxRecDepth 100000 in
theorem k_B_sumOfSigns_0 {p : Program} {l : Launch} {e : Env} {s : State} {m : MethodId} {args : Array Value} {below : List Frame} {meth : Method} {c : Code} {D : va_G} {A : Nat → Prop} {a : Nat → Nat} {k : Nat → ClassId} {lab : Nat → Int32} {ci : Int32} {od : Nat → Int32} {sd : Nat → Int32} {go : Nat → Int32} {ta : Nat → Int32} {we : Int32} {oe : Nat → Int32} {fp : Nat → Int32} {ro : Nat → Int64} {sp : Nat → Int64} {qr : Nat} {qs : Nat} (C : cx D [(k 1, .int), (k 2, .int), (k 3, .int), (k 4, .int), (k 5, .boolean), (k 6, .int), (k 8, .int), (k 9, .int), (k 11, .long)] R_B b_B_sumOfSigns 3 (some .int) A p s m args meth c) : H_B_sumOfSigns_0 p l e s m args below meth c D A a k lab ci od sd go ta we oe fp ro sp qr qs (J_B_sumOfSigns_0) := by
  obtain ⟨hx, hb, hr, hml, hown, ht, hlk, hA, hK⟩ := id C
  intro sg cc r h H locs ls hP hD hS hl
  unfold J_B_sumOfSigns_0 at h
  refine lv_iconst (v := 0) hx hb d_B_sumOfSigns_0 (by decide) ?_
  refine lv_istore_n (lv' := [(1, .int (0 : Int32)), (0, .ref (a 0))]) hx hb d_B_sumOfSigns_1 rfl hl (by decide) rfl (fun ls hl => ?_)
  refine lv_iconst (v := 0) hx hb d_B_sumOfSigns_2 (by decide) ?_
  refine lv_istore_n (lv' := [(2, .int (0 : Int32)), (1, .int (0 : Int32)), (0, .ref (a 0))]) hx hb d_B_sumOfSigns_3 rfl hl (by decide) rfl (fun ls hl => ?_)
  exact (k_B_sumOfSigns_4_L C fu) _ _ _ _ _ h _ _ _ hP hD hS (lv_sub hl [2, 1, 0] rfl)
set_option maxRecDepth 20000 in
theorem c_B_sumOfSigns (l : Launch) (D : va_G) (a : Nat → Nat) (k : Nat → ClassId) (sz : Nat) (lab : Nat → Int32) (sg : Nat → Int32) (cc : Int32) (ci : Int32) (od : Nat → Int32) (sd : Nat → Int32) (go : Nat → Int32) (ta : Nat → Int32) (we : Int32) (oe : Nat → Int32) (fp : Nat → Int32) (ro : Nat → Int64) (sp : Nat → Int64) (qr : Nat) (qs : Nat) (r : Int32) (h : F_B_sumOfSigns sg cc = some r) : Met l y_B_sumOfSigns (Cond.code y_B_sumOfSigns b_B_sumOfSigns 3 (some .int) :: lw_g) (rm_B_sumOfSigns) (va_Pc [.ref (a 0)] (pcW D [(k 1, .int), (k 2, .int), (k 3, .int), (k 4, .int), (k 5, .boolean), (k 6, .int), (k 8, .int), (k 9, .int), (k 11, .long)] (wB a k lab sg cc ci od sd go ta we oe fp ro sp qr qs) sz)) (qc_B_sumOfSigns D (va_A (wB a k lab sg cc ci od sd go ta we oe fp ro sp qr qs) sz) a k lab sg cc ci od sd go ta we oe fp ro sp qr qs r) 0 0 (va_A (wB a k lab sg cc ci od sd go ta we oe fp ro sp qr qs) sz) := by
  refine Met.ofW (cc := b_B_sumOfSigns) (maxL := 3) (ret := (some .int)) (by decide) rfl ?_
  intro p e s m args below meth c s₁ B hml hv
  obtain ⟨rfl, hsz, hP, hK, hD0⟩ := hv
  have hts := atoms_spec (ws := Cond.code y_B_sumOfSigns b_B_sumOfSigns 3 (some .int) :: lw_g) B.pre
  subst hsz
  have hD := hD0.self (sz := s.heap.size)
  have hl := lv_entry ([.ref (a 0)]) (n := 3) (Nat.le_of_ble_eq_true rfl)
  rw [lg_entry_eq]
  generalize (lg_sl ([.ref (a 0)]) ++ List.replicate (3 - (lg_sl ([.ref (a 0)])).length) Slot.unset).toArray = ls at hl ⊢
  exact k_B_sumOfSigns_0 ⟨B.exec, B.bytes, B.returns, hml, findClass_of_methodNamed B.named, fun w hw => hts w (List.mem_cons_of_mem _ hw), B.notSynchronized, fun q h => Or.inr h, hK⟩ _ _ _ h _ _ _ hP hD va_S.rf hl

def rm_B_lookAtAll : Room := { frames := 1, cells := 0, slots := 0, locals := 22 }
def qc_B_lookAtAll (D : va_G) (A : Nat → Prop) (a : Nat → Nat) (k : Nat → ClassId) (lab : Nat → Int32) (sg : Nat → Int32) (cc : Int32) (ci : Int32) (od : Nat → Int32) (sd : Nat → Int32) (go : Nat → Int32) (ta : Nat → Int32) (we : Int32) (oe : Nat → Int32) (fp : Nat → Int32) (ro : Nat → Int64) (sp : Nat → Int64) (qr : Nat) (qs : Nat) (r : Int32) : Array Value → State → Outcome → State → Prop := va_Qi (fun (r1 : Int32) (_ : Unit) => r1 = r) (poW D [(k 1, .int), (k 2, .int), (k 3, .int), (k 4, .int), (k 5, .boolean), (k 6, .int), (k 8, .int), (k 9, .int), (k 11, .long)] (wB a k lab sg cc ci od sd go ta we oe fp ro sp qr qs) A) A
def J_B_lookAtAll_0 (x1 : Int32) (sg : Nat → Int32) (cc : Int32) (ci : Int32) : Option (Int32) :=
  (if x1 = 0 then some (cc) else (if x1 = 1 then some (ci) else (if x1 = 2 then (Option.bind (F_B_sumOfSigns sg cc) (fun v_4 => some (v_4))) else some ((-1000 : Int32)))))
def F_B_lookAtAll (x1 : Int32) (sg : Nat → Int32) (cc : Int32) (ci : Int32) : Option (Int32) := J_B_lookAtAll_0 x1 sg cc ci
def H_B_lookAtAll_0 (p : Program) (l : Launch) (e : Env) (s : State) (m : MethodId) (args : Array Value) (below : List Frame) (meth : Method) (c : Code) (D : va_G) (A : Nat → Prop) (a : Nat → Nat) (k : Nat → ClassId) (lab : Nat → Int32) (od : Nat → Int32) (sd : Nat → Int32) (go : Nat → Int32) (ta : Nat → Int32) (we : Int32) (oe : Nat → Int32) (fp : Nat → Int32) (ro : Nat → Int64) (sp : Nat → Int64) (qr : Nat) (qs : Nat) (f : Int32 → (Nat → Int32) → Int32 → Int32 → Option (Int32)) : Prop := ∀ (x1 : Int32) (sg : Nat → Int32) (cc : Int32) (ci : Int32) (r : Int32), f x1 sg cc ci = some r → ∀ (H : Heap) (locs : List Loc) (ls : Array Slot), va_P D classes (wB a k lab sg cc ci od sd go ta we oe fp ro sp qr qs) H → va_D A (wB a k lab sg cc ci od sd go ta we oe fp ro sp qr qs) → va_S A s.heap H locs → lv_has ls 2 [(0, .ref (a 0)), (1, .int x1)] → W p l e (rm_B_lookAtAll) s m args below meth c H locs 0 0 (MQ below (qc_B_lookAtAll D A a k lab sg cc ci od sd go ta we oe fp ro sp qr qs r) args s 0 0 A) (F0 m 0 ls [])
set_option maxHeartbeats 4000000 in
set_option maxRecDepth 100000 in
theorem k_B_lookAtAll_0 {p : Program} {l : Launch} {e : Env} {s : State} {m : MethodId} {args : Array Value} {below : List Frame} {meth : Method} {c : Code} {D : va_G} {A : Nat → Prop} {a : Nat → Nat} {k : Nat → ClassId} {lab : Nat → Int32} {od : Nat → Int32} {sd : Nat → Int32} {go : Nat → Int32} {ta : Nat → Int32} {we : Int32} {oe : Nat → Int32} {fp : Nat → Int32} {ro : Nat → Int64} {sp : Nat → Int64} {qr : Nat} {qs : Nat} (C : cx D [(k 1, .int), (k 2, .int), (k 3, .int), (k 4, .int), (k 5, .boolean), (k 6, .int), (k 8, .int), (k 9, .int), (k 11, .long)] R_B b_B_lookAtAll 2 (some .int) A p s m args meth c) : H_B_lookAtAll_0 p l e s m args below meth c D A a k lab od sd go ta we oe fp ro sp qr qs (J_B_lookAtAll_0) := by
  obtain ⟨hx, hb, hr, hml, hown, ht, hlk, hA, hK⟩ := id C
  intro x1 sg cc ci r h H locs ls hP hD hS hl
  unfold J_B_lookAtAll_0 at h
  refine lv_iload_n hx hb d_B_lookAtAll_0 rfl (lv_at hl 1 rfl) ?_
  by_cases c_1 : x1 = 0
  · have h := ite_T c_1 h
    refine lv_tableIn (tgt := 28) hx hb d_B_lookAtAll_1 (by rw [c_1]; decide) (by rw [c_1]; decide) (by rw [c_1]; rfl) (by decide) ?_
    refine lv_aload_n hx hb d_B_lookAtAll_28 rfl (lv_at hl 0 rfl) ?_
    refine va_get (D := D) (ci := 0) (v := .int cc) (C := R_B) (T := F_B) (N := 11) hx hb ht iC_B hown hK hP 0 rfl rfl 2 (by decide) (ht _ ix_38) (fun _ h9 => h9) rfl d_B_lookAtAll_29 ?_
    cases h
    exact W.iret hx hb hr (fun t ht hW => ⟨⟨_, (), rfl, rfl, by rw [ht]; exact hP, va_K.moved hW.alike hK, hD⟩, hS.F ht⟩) hS.2.2 d_B_lookAtAll_32 hlk
  have h := ite_F c_1 h
  by_cases c_2 : x1 = 1
  · have h := ite_T c_2 h
    refine lv_tableIn (tgt := 33) hx hb d_B_lookAtAll_1 (by rw [c_2]; decide) (by rw [c_2]; decide) (by rw [c_2]; rfl) (by decide) ?_
    refine lv_aload_n hx hb d_B_lookAtAll_33 rfl (lv_at hl 0 rfl) ?_
    refine va_get (D := D) (ci := 0) (v := .int ci) (C := R_B) (T := F_B) (N := 11) hx hb ht iC_B hown hK hP 0 rfl rfl 3 (by decide) (ht _ ix_54) (fun _ h9 => h9) rfl d_B_lookAtAll_34 ?_
    cases h
    exact W.iret hx hb hr (fun t ht hW => ⟨⟨_, (), rfl, rfl, by rw [ht]; exact hP, va_K.moved hW.alike hK, hD⟩, hS.F ht⟩) hS.2.2 d_B_lookAtAll_37 hlk
  have h := ite_F c_2 h
  by_cases c_3 : x1 = 2
  · have h := ite_T c_3 h
    refine lv_tableIn (tgt := 38) hx hb d_B_lookAtAll_1 (by rw [c_3]; decide) (by rw [c_3]; decide) (by rw [c_3]; rfl) (by decide) ?_
    refine lv_aload_n hx hb d_B_lookAtAll_38 rfl (lv_at hl 0 rfl) ?_
    obtain ⟨v_4, e_4, h⟩ := bd_some h
    refine go_Vi (r := v_4) (As := []) (rest := []) (wc := (wB a k lab sg cc ci od sd go ta we oe fp ro sp qr qs)) (wr := []) (w1 := (wB a k lab sg cc ci od sd go ta we oe fp ro sp qr qs)) (w2 := (wB a k lab sg cc ci od sd go ta we oe fp ro sp qr qs)) (tc := [(k 1, .int), (k 2, .int), (k 3, .int), (k 4, .int), (k 5, .boolean), (k 6, .int), (k 8, .int), (k 9, .int), (k 11, .long)]) hx hb hml hown ht (c_B_sumOfSigns l D a k H.size lab sg cc ci od sd go ta we oe fp ro sp qr qs v_4 e_4) g_B_95 ⟨rfl, rfl⟩ (n := 0) (by decide +kernel) ⟨(Nat.le_of_ble_eq_true rfl), (Nat.le_of_ble_eq_true rfl)⟩ hP hD hK hS hA ⟨Nat.zero_le _, Nat.zero_le _⟩ [0, 1, 2, 3, 4, 5, 6, 7, 8, 9, 10, 11, 12] [] [0, 1, 2, 3, 4, 5, 6, 7, 8] [0, 1, 2, 3, 4, 5, 6, 7, 8, 9, 10, 11, 12] rfl rfl rfl rfl (by decide) (by decide) (by decide) rfl (by decide) 0 rfl rfl rfl rfl rfl hl.1 (Nat.le_of_ble_eq_true rfl) d_B_lookAtAll_39 (fun H locs hP hD hS => ?_)
    cases h
    exact W.iret hx hb hr (fun t ht hW => ⟨⟨_, (), rfl, rfl, by rw [ht]; exact hP, va_K.moved hW.alike hK, hD⟩, hS.F ht⟩) hS.2.2 d_B_lookAtAll_42 hlk
  have h := ite_F c_3 h
  refine lv_tableOut (tgt := 43) hx hb d_B_lookAtAll_1 (by have q0 : ¬ x1.toInt = 0 := sw_ne c_1; have q1 : ¬ x1.toInt = 1 := sw_ne c_2; have q2 : ¬ x1.toInt = 2 := sw_ne c_3; omega) (by decide) ?_
  refine lv_sipush (v := (-1000)) hx hb d_B_lookAtAll_43 (by decide) ?_
  cases h
  exact W.iret hx hb hr (fun t ht hW => ⟨⟨_, (), rfl, rfl, by rw [ht]; exact hP, va_K.moved hW.alike hK, hD⟩, hS.F ht⟩) hS.2.2 d_B_lookAtAll_46 hlk
set_option maxRecDepth 20000 in
theorem c_B_lookAtAll (l : Launch) (D : va_G) (a : Nat → Nat) (k : Nat → ClassId) (sz : Nat) (x1 : Int32) (lab : Nat → Int32) (sg : Nat → Int32) (cc : Int32) (ci : Int32) (od : Nat → Int32) (sd : Nat → Int32) (go : Nat → Int32) (ta : Nat → Int32) (we : Int32) (oe : Nat → Int32) (fp : Nat → Int32) (ro : Nat → Int64) (sp : Nat → Int64) (qr : Nat) (qs : Nat) (r : Int32) (h : F_B_lookAtAll x1 sg cc ci = some r) : Met l y_B_lookAtAll (Cond.code y_B_lookAtAll b_B_lookAtAll 2 (some .int) :: lw_g) (rm_B_lookAtAll) (va_Pc [.ref (a 0), .int x1] (pcW D [(k 1, .int), (k 2, .int), (k 3, .int), (k 4, .int), (k 5, .boolean), (k 6, .int), (k 8, .int), (k 9, .int), (k 11, .long)] (wB a k lab sg cc ci od sd go ta we oe fp ro sp qr qs) sz)) (qc_B_lookAtAll D (va_A (wB a k lab sg cc ci od sd go ta we oe fp ro sp qr qs) sz) a k lab sg cc ci od sd go ta we oe fp ro sp qr qs r) 0 0 (va_A (wB a k lab sg cc ci od sd go ta we oe fp ro sp qr qs) sz) := by
  refine Met.ofW (cc := b_B_lookAtAll) (maxL := 2) (ret := (some .int)) (by decide) rfl ?_
  intro p e s m args below meth c s₁ B hml hv
  obtain ⟨rfl, hsz, hP, hK, hD0⟩ := hv
  have hts := atoms_spec (ws := Cond.code y_B_lookAtAll b_B_lookAtAll 2 (some .int) :: lw_g) B.pre
  subst hsz
  have hD := hD0.self (sz := s.heap.size)
  have hl := lv_entry ([.ref (a 0), .int x1]) (n := 2) (Nat.le_of_ble_eq_true rfl)
  rw [lg_entry_eq]
  generalize (lg_sl ([.ref (a 0), .int x1]) ++ List.replicate (2 - (lg_sl ([.ref (a 0), .int x1])).length) Slot.unset).toArray = ls at hl ⊢
  exact k_B_lookAtAll_0 ⟨B.exec, B.bytes, B.returns, hml, findClass_of_methodNamed B.named, fun w hw => hts w (List.mem_cons_of_mem _ hw), B.notSynchronized, fun q h => Or.inr h, hK⟩ _ _ _ _ _ h _ _ _ hP hD va_S.rf hl

def rm_B_goOverNone : Room := { frames := 1, cells := 0, slots := 0, locals := 23 }
def qc_B_goOverNone (D : va_G) (A : Nat → Prop) (a : Nat → Nat) (k : Nat → ClassId) (lab : Nat → Int32) (sg : Nat → Int32) (cc : Int32) (ci : Int32) (od : Nat → Int32) (ta : Nat → Int32) (we : Int32) (oe : Nat → Int32) (fp : Nat → Int32) (ro : Nat → Int64) (sp : Nat → Int64) (qr : Nat) (qs : Nat) (r : (Nat → Int32) × (Nat → Int32)) : Array Value → State → Outcome → State → Prop := va_Qv (fun (_ : Unit) => True) (poW D [(k 1, .int), (k 2, .int), (k 3, .int), (k 4, .int), (k 5, .boolean), (k 6, .int), (k 8, .int), (k 9, .int), (k 11, .long)] (wB a k lab sg cc ci od r.1 r.2 ta we oe fp ro sp qr qs) A) A
def J_B_goOverNone_10 (rec10 : Int32 → (Nat → Int32) → (Nat → Int32) → Option ((Nat → Int32) × (Nat → Int32))) (x1 : Int32) (sd : Nat → Int32) (go : Nat → Int32) : Option ((Nat → Int32) × (Nat → Int32)) :=
  (if (10 : Int32) ≤ x1 then some (sd, go) else (if inb x1 10 then rec10 (x1 + 1) sd (upd go x1.toNatClampNeg (vp_nar .boolean (0 : Int32))) else none))
def L_B_goOverNone_10 : Nat → Int32 → (Nat → Int32) → (Nat → Int32) → Option ((Nat → Int32) × (Nat → Int32))
  | 0 => fun _ _ _ => none
  | n + 1 => J_B_goOverNone_10 (L_B_goOverNone_10 n)
def J_B_goOverNone_0 (sd : Nat → Int32) (go : Nat → Int32) : Option ((Nat → Int32) × (Nat → Int32)) :=
  L_B_goOverNone_10 fu (0 : Int32) (fun _ => (0 : Int32)) go
def F_B_goOverNone (sd : Nat → Int32) (go : Nat → Int32) : Option ((Nat → Int32) × (Nat → Int32)) := J_B_goOverNone_0 sd go
def H_B_goOverNone_10 (p : Program) (l : Launch) (e : Env) (s : State) (m : MethodId) (args : Array Value) (below : List Frame) (meth : Method) (c : Code) (D : va_G) (A : Nat → Prop) (a : Nat → Nat) (k : Nat → ClassId) (lab : Nat → Int32) (sg : Nat → Int32) (cc : Int32) (ci : Int32) (od : Nat → Int32) (ta : Nat → Int32) (we : Int32) (oe : Nat → Int32) (fp : Nat → Int32) (ro : Nat → Int64) (sp : Nat → Int64) (qr : Nat) (qs : Nat) (f : Int32 → (Nat → Int32) → (Nat → Int32) → Option ((Nat → Int32) × (Nat → Int32))) : Prop := ∀ (x1 : Int32) (sd : Nat → Int32) (go : Nat → Int32) (r : (Nat → Int32) × (Nat → Int32)), f x1 sd go = some r → ∀ (H : Heap) (locs : List Loc) (ls : Array Slot), va_P D classes (wB a k lab sg cc ci od sd go ta we oe fp ro sp qr qs) H → va_D A (wB a k lab sg cc ci od sd go ta we oe fp ro sp qr qs) → va_S A s.heap H locs → lv_has ls 2 [(0, .ref (a 0)), (1, .int x1)] → W p l e (rm_B_goOverNone) s m args below meth c H locs 0 0 (MQ below (qc_B_goOverNone D A a k lab sg cc ci od ta we oe fp ro sp qr qs r) args s 0 0 A) (F0 m 10 ls [])
def H_B_goOverNone_0 (p : Program) (l : Launch) (e : Env) (s : State) (m : MethodId) (args : Array Value) (below : List Frame) (meth : Method) (c : Code) (D : va_G) (A : Nat → Prop) (a : Nat → Nat) (k : Nat → ClassId) (lab : Nat → Int32) (sg : Nat → Int32) (cc : Int32) (ci : Int32) (od : Nat → Int32) (ta : Nat → Int32) (we : Int32) (oe : Nat → Int32) (fp : Nat → Int32) (ro : Nat → Int64) (sp : Nat → Int64) (qr : Nat) (qs : Nat) (f : (Nat → Int32) → (Nat → Int32) → Option ((Nat → Int32) × (Nat → Int32))) : Prop := ∀ (sd : Nat → Int32) (go : Nat → Int32) (r : (Nat → Int32) × (Nat → Int32)), f sd go = some r → ∀ (H : Heap) (locs : List Loc) (ls : Array Slot), va_P D classes (wB a k lab sg cc ci od sd go ta we oe fp ro sp qr qs) H → va_D A (wB a k lab sg cc ci od sd go ta we oe fp ro sp qr qs) → va_S A s.heap H locs → lv_has ls 2 [(0, .ref (a 0))] → W p l e (rm_B_goOverNone) s m args below meth c H locs 0 0 (MQ below (qc_B_goOverNone D A a k lab sg cc ci od ta we oe fp ro sp qr qs r) args s 0 0 A) (F0 m 0 ls [])
set_option maxHeartbeats 4000000 in
set_option maxRecDepth 100000 in
theorem k_B_goOverNone_10 {p : Program} {l : Launch} {e : Env} {s : State} {m : MethodId} {args : Array Value} {below : List Frame} {meth : Method} {c : Code} {D : va_G} {A : Nat → Prop} {a : Nat → Nat} {k : Nat → ClassId} {lab : Nat → Int32} {sg : Nat → Int32} {cc : Int32} {ci : Int32} {od : Nat → Int32} {ta : Nat → Int32} {we : Int32} {oe : Nat → Int32} {fp : Nat → Int32} {ro : Nat → Int64} {sp : Nat → Int64} {qr : Nat} {qs : Nat} {rec10 : Int32 → (Nat → Int32) → (Nat → Int32) → Option ((Nat → Int32) × (Nat → Int32))} (C : cx D [(k 1, .int), (k 2, .int), (k 3, .int), (k 4, .int), (k 5, .boolean), (k 6, .int), (k 8, .int), (k 9, .int), (k 11, .long)] R_B b_B_goOverNone 2 none A p s m args meth c) (hrec10 : H_B_goOverNone_10 p l e s m args below meth c D A a k lab sg cc ci od ta we oe fp ro sp qr qs rec10) : H_B_goOverNone_10 p l e s m args below meth c D A a k lab sg cc ci od ta we oe fp ro sp qr qs (J_B_goOverNone_10 rec10) := by
  obtain ⟨hx, hb, hr, hml, hown, ht, hlk, hA, hK⟩ := id C
  intro x1 sd go r h H locs ls hP hD hS hl
  unfold J_B_goOverNone_10 at h
  refine lv_iload_n hx hb d_B_goOverNone_10 rfl (lv_at hl 1 rfl) ?_
  refine lv_bipush (v := 10) hx hb d_B_goOverNone_11 (by decide) ?_
  refine lv_icmp_ge (tgt := 29) hx hb d_B_goOverNone_13 (by decide) (fun c_1 => ?_) (fun c_1 => ?_)
  · have h := ite_T c_1 h
    cases h
    exact W.vret hx hb hr (fun t ht hW => ⟨⟨(), rfl, trivial, by rw [ht]; exact hP, va_K.moved hW.alike hK, hD⟩, hS.F ht⟩) hS.2.2 d_B_goOverNone_29 hlk
  · have h := ite_F c_1 h
    refine lv_aload_n hx hb d_B_goOverNone_16 rfl (lv_at hl 0 rfl) ?_
    refine va_get (D := D) (ci := 0) (v := .ref (a 5)) (C := R_B) (T := F_B) (N := 11) hx hb ht iC_B hown hK hP 0 rfl rfl 6 (by decide) (ht _ ix_59) (fun _ h9 => h9) rfl d_B_goOverNone_17 ?_
    refine lv_iload_n hx hb d_B_goOverNone_20 rfl (lv_at hl 1 rfl) ?_
    refine lv_iconst (v := 0) hx hb d_B_goOverNone_21 (by decide) ?_
    obtain ⟨g_2, h⟩ := gd_some h
    refine va_zast hx hb hK hP hD hS 5 4 rfl rfl (inb_in g_2) d_B_goOverNone_22 (fun H locs hP hD hS => ?_)
    have hP : va_P D classes (wB a k lab sg cc ci od sd (upd go x1.toNatClampNeg (vp_nar .boolean (0 : Int32))) ta we oe fp ro sp qr qs) H := hP
    have hD : va_D A (wB a k lab sg cc ci od sd (upd go x1.toNatClampNeg (vp_nar .boolean (0 : Int32))) ta we oe fp ro sp qr qs) := hD
    refine lv_iinc (v := x1 + 1) (lv' := [(1, .int (x1 + 1)), (0, .ref (a 0))]) hx hb d_B_goOverNone_23 hl (k := 1) rfl rfl (by decide) rfl (fun ls hl => ?_)
    refine lv_goto (tgt := 10) hx hb d_B_goOverNone_26 (by decide) ?_
    exact hrec10 _ _ _ _ h _ _ _ hP hD hS (lv_sub hl [1, 0] rfl)
theorem k_B_goOverNone_10_L {p : Program} {l : Launch} {e : Env} {s : State} {m : MethodId} {args : Array Value} {below : List Frame} {meth : Method} {c : Code} {D : va_G} {A : Nat → Prop} {a : Nat → Nat} {k : Nat → ClassId} {lab : Nat → Int32} {sg : Nat → Int32} {cc : Int32} {ci : Int32} {od : Nat → Int32} {ta : Nat → Int32} {we : Int32} {oe : Nat → Int32} {fp : Nat → Int32} {ro : Nat → Int64} {sp : Nat → Int64} {qr : Nat} {qs : Nat} (C : cx D [(k 1, .int), (k 2, .int), (k 3, .int), (k 4, .int), (k 5, .boolean), (k 6, .int), (k 8, .int), (k 9, .int), (k 11, .long)] R_B b_B_goOverNone 2 none A p s m args meth c) : ∀ n : Nat, H_B_goOverNone_10 p l e s m args below meth c D A a k lab sg cc ci od ta we oe fp ro sp qr qs (L_B_goOverNone_10 n)
  | 0 => fun _ _ _ _ h => nomatch h
  | n + 1 => k_B_goOverNone_10 C (k_B_goOverNone_10_L C n)
set_option maxHeartbeats 4000000 in
set_option maxRecDepth 100000 in
theorem k_B_goOverNone_0 {p : Program} {l : Launch} {e : Env} {s : State} {m : MethodId} {args : Array Value} {below : List Frame} {meth : Method} {c : Code} {D : va_G} {A : Nat → Prop} {a : Nat → Nat} {k : Nat → ClassId} {lab : Nat → Int32} {sg : Nat → Int32} {cc : Int32} {ci : Int32} {od : Nat → Int32} {ta : Nat → Int32} {we : Int32} {oe : Nat → Int32} {fp : Nat → Int32} {ro : Nat → Int64} {sp : Nat → Int64} {qr : Nat} {qs : Nat} (C : cx D [(k 1, .int), (k 2, .int), (k 3, .int), (k 4, .int), (k 5, .boolean), (k 6, .int), (k 8, .int), (k 9, .int), (k 11, .long)] R_B b_B_goOverNone 2 none A p s m args meth c) : H_B_goOverNone_0 p l e s m args below meth c D A a k lab sg cc ci od ta we oe fp ro sp qr qs (J_B_goOverNone_0) := by
  obtain ⟨hx, hb, hr, hml, hown, ht, hlk, hA, hK⟩ := id C
  intro sd go r h H locs ls hP hD hS hl
  unfold J_B_goOverNone_0 at h
  refine lv_aload_n hx hb d_B_goOverNone_0 rfl (lv_at hl 0 rfl) ?_
  refine va_get (D := D) (ci := 0) (v := .ref (a 4)) (C := R_B) (T := F_B) (N := 11) hx hb ht iC_B hown hK hP 0 rfl rfl 5 (by decide) (ht _ ix_41) (fun _ h9 => h9) rfl d_B_goOverNone_1 ?_
  refine lv_iconst (v := 0) hx hb d_B_goOverNone_4 (by decide) ?_
  refine go_Sv (As := [.ref (a 4), .int (0 : Int32)]) (rest := []) (wc := [((a 4), .inl (k 4, 100, .inl sd))]) (wr := [((a 0), .inr (0, [.ref (a 1), .ref (a 2), .int cc, .int ci, .ref (a 3), .ref (a 4), .ref (a 5), .ref (a 6), .ref (a 7), .ref (a 10), .int we])), ((a 1), .inl (k 1, 40, .inl lab)), ((a 2), .inl (k 2, 10, .inl sg)), ((a 3), .inl (k 3, 10, .inl od)), ((a 5), .inl (k 5, 10, .inl go)), ((a 6), .inl (k 6, 330, .inl ta)), ((a 7), .inr (1, [.ref (a 8), .ref (a 9)])), ((a 8), .inl (k 8, 40, .inl oe)), ((a 9), .inl (k 9, 100, .inl fp)), ((a 10), .inr (2, [.ref qr, .ref qs])), (qr, .inl (k 11, 133, .inr (.inl ro))), (qs, .inl (k 11, 133, .inr (.inl sp)))]) (w1 := [((a 4), .inl (k 4, 100, .inl (fun _ => (0 : Int32))))]) (w2 := (wB a k lab sg cc ci od (fun _ => (0 : Int32)) go ta we oe fp ro sp qr qs)) (tc := [(k 4, .int)]) hx hb hml hown ht (c_fillI l D (a 4) (k 4) 100 H.size sd (0 : Int32) (by decide)) g_B_134 ⟨rfl, rfl⟩ (n := 2) (by decide +kernel) ⟨(Nat.le_of_ble_eq_true rfl), (Nat.le_of_ble_eq_true rfl)⟩ hP hD hK hS hA ⟨Nat.zero_le _, Nat.zero_le _⟩ [4] [0, 1, 2, 3, 5, 6, 7, 8, 9, 10, 11, 12] [3] [0, 1, 2, 3, 12, 4, 5, 6, 7, 8, 9, 10, 11] rfl rfl rfl rfl (by decide) (by decide) (by decide) rfl (by decide) rfl rfl hl.1 (Nat.le_of_ble_eq_true rfl) d_B_goOverNone_5 (fun H locs hP hD hS => ?_)
  refine lv_iconst (v := 0) hx hb d_B_goOverNone_8 (by decide) ?_
  refine lv_istore_n (lv' := [(1, .int (0 : Int32)), (0, .ref (a 0))]) hx hb d_B_goOverNone_9 rfl hl (by decide) rfl (fun ls hl => ?_)
  exact (k_B_goOverNone_10_L C fu) _ _ _ _ h _ _ _ hP hD hS (lv_sub hl [1, 0] rfl)
set_option maxRecDepth 20000 in
theorem c_B_goOverNone (l : Launch) (D : va_G) (a : Nat → Nat) (k : Nat → ClassId) (sz : Nat) (lab : Nat → Int32) (sg : Nat → Int32) (cc : Int32) (ci : Int32) (od : Nat → Int32) (sd : Nat → Int32) (go : Nat → Int32) (ta : Nat → Int32) (we : Int32) (oe : Nat → Int32) (fp : Nat → Int32) (ro : Nat → Int64) (sp : Nat → Int64) (qr : Nat) (qs : Nat) (r : (Nat → Int32) × (Nat → Int32)) (h : F_B_goOverNone sd go = some r) : Met l y_B_goOverNone (Cond.code y_B_goOverNone b_B_goOverNone 2 none :: lw_g) (rm_B_goOverNone) (va_Pc [.ref (a 0)] (pcW D [(k 1, .int), (k 2, .int), (k 3, .int), (k 4, .int), (k 5, .boolean), (k 6, .int), (k 8, .int), (k 9, .int), (k 11, .long)] (wB a k lab sg cc ci od sd go ta we oe fp ro sp qr qs) sz)) (qc_B_goOverNone D (va_A (wB a k lab sg cc ci od sd go ta we oe fp ro sp qr qs) sz) a k lab sg cc ci od ta we oe fp ro sp qr qs r) 0 0 (va_A (wB a k lab sg cc ci od sd go ta we oe fp ro sp qr qs) sz) := by
  refine Met.ofW (cc := b_B_goOverNone) (maxL := 2) (ret := none) (by decide) rfl ?_
  intro p e s m args below meth c s₁ B hml hv
  obtain ⟨rfl, hsz, hP, hK, hD0⟩ := hv
  have hts := atoms_spec (ws := Cond.code y_B_goOverNone b_B_goOverNone 2 none :: lw_g) B.pre
  subst hsz
  have hD := hD0.self (sz := s.heap.size)
  have hl := lv_entry ([.ref (a 0)]) (n := 2) (Nat.le_of_ble_eq_true rfl)
  rw [lg_entry_eq]
  generalize (lg_sl ([.ref (a 0)]) ++ List.replicate (2 - (lg_sl ([.ref (a 0)])).length) Slot.unset).toArray = ls at hl ⊢
  exact k_B_goOverNone_0 ⟨B.exec, B.bytes, B.returns, hml, findClass_of_methodNamed B.named, fun w hw => hts w (List.mem_cons_of_mem _ hw), B.notSynchronized, fun q h => Or.inr h, hK⟩ _ _ _ h _ _ _ hP hD va_S.rf hl

def rm_B_placesJoined : Room := { frames := 0, cells := 0, slots := 0, locals := 0 }
def qc_B_placesJoined (D : va_G) (A : Nat → Prop) (a : Nat → Nat) (k : Nat → ClassId) (lab : Nat → Int32) (sg : Nat → Int32) (cc : Int32) (ci : Int32) (od : Nat → Int32) (sd : Nat → Int32) (go : Nat → Int32) (ta : Nat → Int32) (we : Int32) (oe : Nat → Int32) (fp : Nat → Int32) (ro : Nat → Int64) (sp : Nat → Int64) (qr : Nat) (qs : Nat) (r : Int32) : Array Value → State → Outcome → State → Prop := va_Qi (fun (r1 : Int32) (_ : Unit) => r1 = r) (poW D [(k 1, .int), (k 2, .int), (k 3, .int), (k 4, .int), (k 5, .boolean), (k 6, .int), (k 8, .int), (k 9, .int), (k 11, .long)] (wB a k lab sg cc ci od sd go ta we oe fp ro sp qr qs) A) A
def J_B_placesJoined_6 (rec6 : Int32 → Int32 → Int32 → (Nat → Int32) → (Nat → Int32) → Option (Int32)) (x1 : Int32) (x2 : Int32) (x3 : Int32) (lab : Nat → Int32) (sd : Nat → Int32) : Option (Int32) :=
  (if ((4 : Int32) * (x1 + (1 : Int32))) ≤ x3 then some (x2) else (if inb x3 40 then (if inb (lab x3.toNatClampNeg) 100 then (if (sd (lab x3.toNatClampNeg).toNatClampNeg) ≤ 0 then rec6 x1 x2 (x3 + 1) lab sd else rec6 x1 (x2 + 1) (x3 + 1) lab sd) else none) else none))
def L_B_placesJoined_6 : Nat → Int32 → Int32 → Int32 → (Nat → Int32) → (Nat → Int32) → Option (Int32)
  | 0 => fun _ _ _ _ _ => none
  | n + 1 => J_B_placesJoined_6 (L_B_placesJoined_6 n)
def J_B_placesJoined_0 (x1 : Int32) (lab : Nat → Int32) (sd : Nat → Int32) : Option (Int32) :=
  L_B_placesJoined_6 fu x1 (0 : Int32) ((4 : Int32) * x1) lab sd
def F_B_placesJoined (x1 : Int32) (lab : Nat → Int32) (sd : Nat → Int32) : Option (Int32) := J_B_placesJoined_0 x1 lab sd
def H_B_placesJoined_6 (p : Program) (l : Launch) (e : Env) (s : State) (m : MethodId) (args : Array Value) (below : List Frame) (meth : Method) (c : Code) (D : va_G) (A : Nat → Prop) (a : Nat → Nat) (k : Nat → ClassId) (sg : Nat → Int32) (cc : Int32) (ci : Int32) (od : Nat → Int32) (go : Nat → Int32) (ta : Nat → Int32) (we : Int32) (oe : Nat → Int32) (fp : Nat → Int32) (ro : Nat → Int64) (sp : Nat → Int64) (qr : Nat) (qs : Nat) (f : Int32 → Int32 → Int32 → (Nat → Int32) → (Nat → Int32) → Option (Int32)) : Prop := ∀ (x1 : Int32) (x2 : Int32) (x3 : Int32) (lab : Nat → Int32) (sd : Nat → Int32) (r : Int32), f x1 x2 x3 lab sd = some r → ∀ (H : Heap) (locs : List Loc) (ls : Array Slot), va_P D classes (wB a k lab sg cc ci od sd go ta we oe fp ro sp qr qs) H → va_D A (wB a k lab sg cc ci od sd go ta we oe fp ro sp qr qs) → va_S A s.heap H locs → lv_has ls 4 [(0, .ref (a 0)), (1, .int x1), (2, .int x2), (3, .int x3)] → W p l e (rm_B_placesJoined) s m args below meth c H locs 0 0 (MQ below (qc_B_placesJoined D A a k lab sg cc ci od sd go ta we oe fp ro sp qr qs r) args s 0 0 A) (F0 m 6 ls [])
def H_B_placesJoined_0 (p : Program) (l : Launch) (e : Env) (s : State) (m : MethodId) (args : Array Value) (below : List Frame) (meth : Method) (c : Code) (D : va_G) (A : Nat → Prop) (a : Nat → Nat) (k : Nat → ClassId) (sg : Nat → Int32) (cc : Int32) (ci : Int32) (od : Nat → Int32) (go : Nat → Int32) (ta : Nat → Int32) (we : Int32) (oe : Nat → Int32) (fp : Nat → Int32) (ro : Nat → Int64) (sp : Nat → Int64) (qr : Nat) (qs : Nat) (f : Int32 → (Nat → Int32) → (Nat → Int32) → Option (Int32)) : Prop := ∀ (x1 : Int32) (lab : Nat → Int32) (sd : Nat → Int32) (r : Int32), f x1 lab sd = some r → ∀ (H : Heap) (locs : List Loc) (ls : Array Slot), va_P D classes (wB a k lab sg cc ci od sd go ta we oe fp ro sp qr qs) H → va_D A (wB a k lab sg cc ci od sd go ta we oe fp ro sp qr qs) → va_S A s.heap H locs → lv_has ls 4 [(0, .ref (a 0)), (1, .int x1)] → W p l e (rm_B_placesJoined) s m args below meth c H locs 0 0 (MQ below (qc_B_placesJoined D A a k lab sg cc ci od sd go ta we oe fp ro sp qr qs r) args s 0 0 A) (F0 m 0 ls [])
set_option maxHeartbeats 4000000 in
set_option maxRecDepth 100000 in
theorem k_B_placesJoined_6 {p : Program} {l : Launch} {e : Env} {s : State} {m : MethodId} {args : Array Value} {below : List Frame} {meth : Method} {c : Code} {D : va_G} {A : Nat → Prop} {a : Nat → Nat} {k : Nat → ClassId} {sg : Nat → Int32} {cc : Int32} {ci : Int32} {od : Nat → Int32} {go : Nat → Int32} {ta : Nat → Int32} {we : Int32} {oe : Nat → Int32} {fp : Nat → Int32} {ro : Nat → Int64} {sp : Nat → Int64} {qr : Nat} {qs : Nat} {rec6 : Int32 → Int32 → Int32 → (Nat → Int32) → (Nat → Int32) → Option (Int32)} (C : cx D [(k 1, .int), (k 2, .int), (k 3, .int), (k 4, .int), (k 5, .boolean), (k 6, .int), (k 8, .int), (k 9, .int), (k 11, .long)] R_B b_B_placesJoined 4 (some .int) A p s m args meth c) (hrec6 : H_B_placesJoined_6 p l e s m args below meth c D A a k sg cc ci od go ta we oe fp ro sp qr qs rec6) : H_B_placesJoined_6 p l e s m args below meth c D A a k sg cc ci od go ta we oe fp ro sp qr qs (J_B_placesJoined_6 rec6) := by
  obtain ⟨hx, hb, hr, hml, hown, ht, hlk, hA, hK⟩ := id C
  intro x1 x2 x3 lab sd r h H locs ls hP hD hS hl
  unfold J_B_placesJoined_6 at h
  refine lv_iload_n hx hb d_B_placesJoined_6 rfl (lv_at hl 3 rfl) ?_
  refine lv_iconst (v := 4) hx hb d_B_placesJoined_7 (by decide) ?_
  refine lv_iload_n hx hb d_B_placesJoined_8 rfl (lv_at hl 1 rfl) ?_
  refine lv_iconst (v := 1) hx hb d_B_placesJoined_9 (by decide) ?_
  refine lv_iadd hx hb d_B_placesJoined_10 ?_
  refine lv_imul hx hb d_B_placesJoined_11 ?_
  refine lv_icmp_ge (tgt := 38) hx hb d_B_placesJoined_12 (by decide) (fun c_1 => ?_) (fun c_1 => ?_)
  · have h := ite_T c_1 h
    refine lv_iload_n hx hb d_B_placesJoined_38 rfl (lv_at hl 2 rfl) ?_
    cases h
    exact W.iret hx hb hr (fun t ht hW => ⟨⟨_, (), rfl, rfl, by rw [ht]; exact hP, va_K.moved hW.alike hK, hD⟩, hS.F ht⟩) hS.2.2 d_B_placesJoined_39 hlk
  · have h := ite_F c_1 h
    refine lv_aload_n hx hb d_B_placesJoined_15 rfl (lv_at hl 0 rfl) ?_
    refine va_get (D := D) (ci := 0) (v := .ref (a 4)) (C := R_B) (T := F_B) (N := 11) hx hb ht iC_B hown hK hP 0 rfl rfl 5 (by decide) (ht _ ix_41) (fun _ h9 => h9) rfl d_B_placesJoined_16 ?_
    refine lv_aload_n hx hb d_B_placesJoined_19 rfl (lv_at hl 0 rfl) ?_
    refine va_get (D := D) (ci := 0) (v := .ref (a 1)) (C := R_B) (T := F_B) (N := 11) hx hb ht iC_B hown hK hP 0 rfl rfl 0 (by decide) (ht _ ix_43) (fun _ h9 => h9) rfl d_B_placesJoined_20 ?_
    refine lv_iload_n hx hb d_B_placesJoined_23 rfl (lv_at hl 3 rfl) ?_
    obtain ⟨g_2, h⟩ := gd_some h
    refine va_iald hx hb hK hP 1 0 rfl rfl (inb_in g_2) d_B_placesJoined_24 ?_
    obtain ⟨g_3, h⟩ := gd_some h
    refine va_iald hx hb hK hP 4 3 rfl rfl (inb_in g_3) d_B_placesJoined_25 ?_
    refine lv_if_le (tgt := 32) hx hb d_B_placesJoined_26 (by decide) (fun c_4 => ?_) (fun c_4 => ?_)
    · have h := ite_T c_4 h
      refine lv_iinc (v := x3 + 1) (lv' := [(3, .int (x3 + 1)), (0, .ref (a 0)), (1, .int x1), (2, .int x2)]) hx hb d_B_placesJoined_32 hl (k := 3) rfl rfl (by decide) rfl (fun ls hl => ?_)
      refine lv_goto (tgt := 6) hx hb d_B_placesJoined_35 (by decide) ?_
      exact hrec6 _ _ _ _ _ _ h _ _ _ hP hD hS (lv_sub hl [1, 2, 3, 0] rfl)
    · have h := ite_F c_4 h
      refine lv_iinc (v := x2 + 1) (lv' := [(2, .int (x2 + 1)), (0, .ref (a 0)), (1, .int x1), (3, .int x3)]) hx hb d_B_placesJoined_29 hl (k := 2) rfl rfl (by decide) rfl (fun ls hl => ?_)
      refine lv_iinc (v := x3 + 1) (lv' := [(3, .int (x3 + 1)), (2, .int (x2 + 1)), (0, .ref (a 0)), (1, .int x1)]) hx hb d_B_placesJoined_32 hl (k := 3) rfl rfl (by decide) rfl (fun ls hl => ?_)
      refine lv_goto (tgt := 6) hx hb d_B_placesJoined_35 (by decide) ?_
      exact hrec6 _ _ _ _ _ _ h _ _ _ hP hD hS (lv_sub hl [2, 3, 1, 0] rfl)
theorem k_B_placesJoined_6_L {p : Program} {l : Launch} {e : Env} {s : State} {m : MethodId} {args : Array Value} {below : List Frame} {meth : Method} {c : Code} {D : va_G} {A : Nat → Prop} {a : Nat → Nat} {k : Nat → ClassId} {sg : Nat → Int32} {cc : Int32} {ci : Int32} {od : Nat → Int32} {go : Nat → Int32} {ta : Nat → Int32} {we : Int32} {oe : Nat → Int32} {fp : Nat → Int32} {ro : Nat → Int64} {sp : Nat → Int64} {qr : Nat} {qs : Nat} (C : cx D [(k 1, .int), (k 2, .int), (k 3, .int), (k 4, .int), (k 5, .boolean), (k 6, .int), (k 8, .int), (k 9, .int), (k 11, .long)] R_B b_B_placesJoined 4 (some .int) A p s m args meth c) : ∀ n : Nat, H_B_placesJoined_6 p l e s m args below meth c D A a k sg cc ci od go ta we oe fp ro sp qr qs (L_B_placesJoined_6 n)
  | 0 => fun _ _ _ _ _ _ h => nomatch h
  | n + 1 => k_B_placesJoined_6 C (k_B_placesJoined_6_L C n)
set_option maxHeartbeats 4000000 in
set_option maxRecDepth 100000 in
theorem k_B_placesJoined_0 {p : Program} {l : Launch} {e : Env} {s : State} {m : MethodId} {args : Array Value} {below : List Frame} {meth : Method} {c : Code} {D : va_G} {A : Nat → Prop} {a : Nat → Nat} {k : Nat → ClassId} {sg : Nat → Int32} {cc : Int32} {ci : Int32} {od : Nat → Int32} {go : Nat → Int32} {ta : Nat → Int32} {we : Int32} {oe : Nat → Int32} {fp : Nat → Int32} {ro : Nat → Int64} {sp : Nat → Int64} {qr : Nat} {qs : Nat} (C : cx D [(k 1, .int), (k 2, .int), (k 3, .int), (k 4, .int), (k 5, .boolean), (k 6, .int), (k 8, .int), (k 9, .int), (k 11, .long)] R_B b_B_placesJoined 4 (some .int) A p s m args meth c) : H_B_placesJoined_0 p l e s m args below meth c D A a k sg cc ci od go ta we oe fp ro sp qr qs (J_B_placesJoined_0) := by
  obtain ⟨hx, hb, hr, hml, hown, ht, hlk, hA, hK⟩ := id C
  intro x1 lab sd r h H locs ls hP hD hS hl
  unfold J_B_placesJoined_0 at h
  refine lv_iconst (v := 0) hx hb d_B_placesJoined_0 (by decide) ?_
  refine lv_istore_n (lv' := [(2, .int (0 : Int32)), (0, .ref (a 0)), (1, .int x1)]) hx hb d_B_placesJoined_1 rfl hl (by decide) rfl (fun ls hl => ?_)
  refine lv_iconst (v := 4) hx hb d_B_placesJoined_2 (by decide) ?_
  refine lv_iload_n hx hb d_B_placesJoined_3 rfl (lv_at hl 2 rfl) ?_
  refine lv_imul hx hb d_B_placesJoined_4 ?_
  refine lv_istore_n (lv' := [(3, .int ((4 : Int32) * x1)), (2, .int (0 : Int32)), (0, .ref (a 0)), (1, .int x1)]) hx hb d_B_placesJoined_5 rfl hl (by decide) rfl (fun ls hl => ?_)
  exact (k_B_placesJoined_6_L C fu) _ _ _ _ _ _ h _ _ _ hP hD hS (lv_sub hl [2, 3, 1, 0] rfl)
set_option maxRecDepth 20000 in
theorem c_B_placesJoined (l : Launch) (D : va_G) (a : Nat → Nat) (k : Nat → ClassId) (sz : Nat) (x1 : Int32) (lab : Nat → Int32) (sg : Nat → Int32) (cc : Int32) (ci : Int32) (od : Nat → Int32) (sd : Nat → Int32) (go : Nat → Int32) (ta : Nat → Int32) (we : Int32) (oe : Nat → Int32) (fp : Nat → Int32) (ro : Nat → Int64) (sp : Nat → Int64) (qr : Nat) (qs : Nat) (r : Int32) (h : F_B_placesJoined x1 lab sd = some r) : Met l y_B_placesJoined (Cond.code y_B_placesJoined b_B_placesJoined 4 (some .int) :: lw_g) (rm_B_placesJoined) (va_Pc [.ref (a 0), .int x1] (pcW D [(k 1, .int), (k 2, .int), (k 3, .int), (k 4, .int), (k 5, .boolean), (k 6, .int), (k 8, .int), (k 9, .int), (k 11, .long)] (wB a k lab sg cc ci od sd go ta we oe fp ro sp qr qs) sz)) (qc_B_placesJoined D (va_A (wB a k lab sg cc ci od sd go ta we oe fp ro sp qr qs) sz) a k lab sg cc ci od sd go ta we oe fp ro sp qr qs r) 0 0 (va_A (wB a k lab sg cc ci od sd go ta we oe fp ro sp qr qs) sz) := by
  refine Met.ofW (cc := b_B_placesJoined) (maxL := 4) (ret := (some .int)) (by decide) rfl ?_
  intro p e s m args below meth c s₁ B hml hv
  obtain ⟨rfl, hsz, hP, hK, hD0⟩ := hv
  have hts := atoms_spec (ws := Cond.code y_B_placesJoined b_B_placesJoined 4 (some .int) :: lw_g) B.pre
  subst hsz
  have hD := hD0.self (sz := s.heap.size)
  have hl := lv_entry ([.ref (a 0), .int x1]) (n := 4) (Nat.le_of_ble_eq_true rfl)
  rw [lg_entry_eq]
  generalize (lg_sl ([.ref (a 0), .int x1]) ++ List.replicate (4 - (lg_sl ([.ref (a 0), .int x1])).length) Slot.unset).toArray = ls at hl ⊢
  exact k_B_placesJoined_0 ⟨B.exec, B.bytes, B.returns, hml, findClass_of_methodNamed B.named, fun w hw => hts w (List.mem_cons_of_mem _ hw), B.notSynchronized, fun q h => Or.inr h, hK⟩ _ _ _ _ h _ _ _ hP hD va_S.rf hl

def rm_B_mostJoined : Room := { frames := 1, cells := 0, slots := 0, locals := 23 }
def qc_B_mostJoined (D : va_G) (A : Nat → Prop) (a : Nat → Nat) (k : Nat → ClassId) (lab : Nat → Int32) (sg : Nat → Int32) (cc : Int32) (ci : Int32) (od : Nat → Int32) (sd : Nat → Int32) (go : Nat → Int32) (ta : Nat → Int32) (we : Int32) (oe : Nat → Int32) (fp : Nat → Int32) (ro : Nat → Int64) (sp : Nat → Int64) (qr : Nat) (qs : Nat) (r : Int32) : Array Value → State → Outcome → State → Prop := va_Qi (fun (r1 : Int32) (_ : Unit) => r1 = r) (poW D [(k 1, .int), (k 2, .int), (k 3, .int), (k 4, .int), (k 5, .boolean), (k 6, .int), (k 8, .int), (k 9, .int), (k 11, .long)] (wB a k lab sg cc ci od sd go ta we oe fp ro sp qr qs) A) A
def J_B_mostJoined_32 (rec6 : Int32 → Int32 → Int32 → (Nat → Int32) → Int32 → (Nat → Int32) → (Nat → Int32) → Option (Int32)) (x1 : Int32) (x2 : Int32) (x3 : Int32) (y0 : Int32) (lab : Nat → Int32) (cc : Int32) (sd : Nat → Int32) (go : Nat → Int32) : Option (Int32) :=
  (if y0 ≤ x2 then rec6 x1 x2 (x3 + 1) lab cc sd go else rec6 x3 y0 (x3 + 1) lab cc sd go)
def J_B_mostJoined_6 (rec6 : Int32 → Int32 → Int32 → (Nat → Int32) → Int32 → (Nat → Int32) → (Nat → Int32) → Option (Int32)) (x1 : Int32) (x2 : Int32) (x3 : Int32) (lab : Nat → Int32) (cc : Int32) (sd : Nat → Int32) (go : Nat → Int32) : Option (Int32) :=
  (if cc ≤ x3 then some (x1) else (if inb x3 10 then (if (go x3.toNatClampNeg) = 0 then (Option.bind (F_B_placesJoined x3 lab sd) (fun v_4 => J_B_mostJoined_32 rec6 x1 x2 x3 v_4 lab cc sd go)) else J_B_mostJoined_32 rec6 x1 x2 x3 (-1 : Int32) lab cc sd go) else none))
def L_B_mostJoined_6 : Nat → Int32 → Int32 → Int32 → (Nat → Int32) → Int32 → (Nat → Int32) → (Nat → Int32) → Option (Int32)
  | 0 => fun _ _ _ _ _ _ _ => none
  | n + 1 => J_B_mostJoined_6 (L_B_mostJoined_6 n)
def J_B_mostJoined_0 (lab : Nat → Int32) (cc : Int32) (sd : Nat → Int32) (go : Nat → Int32) : Option (Int32) :=
  L_B_mostJoined_6 fu (0 : Int32) (-1 : Int32) (0 : Int32) lab cc sd go
def F_B_mostJoined (lab : Nat → Int32) (cc : Int32) (sd : Nat → Int32) (go : Nat → Int32) : Option (Int32) := J_B_mostJoined_0 lab cc sd go
def H_B_mostJoined_32 (p : Program) (l : Launch) (e : Env) (s : State) (m : MethodId) (args : Array Value) (below : List Frame) (meth : Method) (c : Code) (D : va_G) (A : Nat → Prop) (a : Nat → Nat) (k : Nat → ClassId) (sg : Nat → Int32) (ci : Int32) (od : Nat → Int32) (ta : Nat → Int32) (we : Int32) (oe : Nat → Int32) (fp : Nat → Int32) (ro : Nat → Int64) (sp : Nat → Int64) (qr : Nat) (qs : Nat) (f : Int32 → Int32 → Int32 → Int32 → (Nat → Int32) → Int32 → (Nat → Int32) → (Nat → Int32) → Option (Int32)) : Prop := ∀ (x1 : Int32) (x2 : Int32) (x3 : Int32) (y0 : Int32) (lab : Nat → Int32) (cc : Int32) (sd : Nat → Int32) (go : Nat → Int32) (r : Int32), f x1 x2 x3 y0 lab cc sd go = some r → ∀ (H : Heap) (locs : List Loc) (ls : Array Slot), va_P D classes (wB a k lab sg cc ci od sd go ta we oe fp ro sp qr qs) H → va_D A (wB a k lab sg cc ci od sd go ta we oe fp ro sp qr qs) → va_S A s.heap H locs → lv_has ls 5 [(0, .ref (a 0)), (1, .int x1), (2, .int x2), (3, .int x3)] → W p l e (rm_B_mostJoined) s m args below meth c H locs 0 0 (MQ below (qc_B_mostJoined D A a k lab sg cc ci od sd go ta we oe fp ro sp qr qs r) args s 0 0 A) (F0 m 32 ls [.int y0])
def H_B_mostJoined_6 (p : Program) (l : Launch) (e : Env) (s : State) (m : MethodId) (args : Array Value) (below : List Frame) (meth : Method) (c : Code) (D : va_G) (A : Nat → Prop) (a : Nat → Nat) (k : Nat → ClassId) (sg : Nat → Int32) (ci : Int32) (od : Nat → Int32) (ta : Nat → Int32) (we : Int32) (oe : Nat → Int32) (fp : Nat → Int32) (ro : Nat → Int64) (sp : Nat → Int64) (qr : Nat) (qs : Nat) (f : Int32 → Int32 → Int32 → (Nat → Int32) → Int32 → (Nat → Int32) → (Nat → Int32) → Option (Int32)) : Prop := ∀ (x1 : Int32) (x2 : Int32) (x3 : Int32) (lab : Nat → Int32) (cc : Int32) (sd : Nat → Int32) (go : Nat → Int32) (r : Int32), f x1 x2 x3 lab cc sd go = some r → ∀ (H : Heap) (locs : List Loc) (ls : Array Slot), va_P D classes (wB a k lab sg cc ci od sd go ta we oe fp ro sp qr qs) H → va_D A (wB a k lab sg cc ci od sd go ta we oe fp ro sp qr qs) → va_S A s.heap H locs → lv_has ls 5 [(0, .ref (a 0)), (1, .int x1), (2, .int x2), (3, .int x3)] → W p l e (rm_B_mostJoined) s m args below meth c H locs 0 0 (MQ below (qc_B_mostJoined D A a k lab sg cc ci od sd go ta we oe fp ro sp qr qs r) args s 0 0 A) (F0 m 6 ls [])
def H_B_mostJoined_0 (p : Program) (l : Launch) (e : Env) (s : State) (m : MethodId) (args : Array Value) (below : List Frame) (meth : Method) (c : Code) (D : va_G) (A : Nat → Prop) (a : Nat → Nat) (k : Nat → ClassId) (sg : Nat → Int32) (ci : Int32) (od : Nat → Int32) (ta : Nat → Int32) (we : Int32) (oe : Nat → Int32) (fp : Nat → Int32) (ro : Nat → Int64) (sp : Nat → Int64) (qr : Nat) (qs : Nat) (f : (Nat → Int32) → Int32 → (Nat → Int32) → (Nat → Int32) → Option (Int32)) : Prop := ∀ (lab : Nat → Int32) (cc : Int32) (sd : Nat → Int32) (go : Nat → Int32) (r : Int32), f lab cc sd go = some r → ∀ (H : Heap) (locs : List Loc) (ls : Array Slot), va_P D classes (wB a k lab sg cc ci od sd go ta we oe fp ro sp qr qs) H → va_D A (wB a k lab sg cc ci od sd go ta we oe fp ro sp qr qs) → va_S A s.heap H locs → lv_has ls 5 [(0, .ref (a 0))] → W p l e (rm_B_mostJoined) s m args below meth c H locs 0 0 (MQ below (qc_B_mostJoined D A a k lab sg cc ci od sd go ta we oe fp ro sp qr qs r) args s 0 0 A) (F0 m 0 ls [])
set_option maxHeartbeats 4000000 in
set_option maxRecDepth 100000 in
theorem k_B_mostJoined_32 {p : Program} {l : Launch} {e : Env} {s : State} {m : MethodId} {args : Array Value} {below : List Frame} {meth : Method} {c : Code} {D : va_G} {A : Nat → Prop} {a : Nat → Nat} {k : Nat → ClassId} {sg : Nat → Int32} {ci : Int32} {od : Nat → Int32} {ta : Nat → Int32} {we : Int32} {oe : Nat → Int32} {fp : Nat → Int32} {ro : Nat → Int64} {sp : Nat → Int64} {qr : Nat} {qs : Nat} {rec6 : Int32 → Int32 → Int32 → (Nat → Int32) → Int32 → (Nat → Int32) → (Nat → Int32) → Option (Int32)} (C : cx D [(k 1, .int), (k 2, .int), (k 3, .int), (k 4, .int), (k 5, .boolean), (k 6, .int), (k 8, .int), (k 9, .int), (k 11, .long)] R_B b_B_mostJoined 5 (some .int) A p s m args meth c) (hrec6 : H_B_mostJoined_6 p l e s m args below meth c D A a k sg ci od ta we oe fp ro sp qr qs rec6) : H_B_mostJoined_32 p l e s m args below meth c D A a k sg ci od ta we oe fp ro sp qr qs (J_B_mostJoined_32 rec6) := by
  obtain ⟨hx, hb, hr, hml, hown, ht, hlk, hA, hK⟩ := id C
  intro x1 x2 x3 y0 lab cc sd go r h H locs ls hP hD hS hl
  unfold J_B_mostJoined_32 at h
  refine lv_istore (lv' := [(4, .int y0), (0, .ref (a 0)), (1, .int x1), (2, .int x2), (3, .int x3)]) hx hb d_B_mostJoined_32 hl (by decide) rfl (fun ls hl => ?_)
  refine lv_iload hx hb d_B_mostJoined_34 (lv_at hl 0 rfl) ?_
  refine lv_iload_n hx hb d_B_mostJoined_36 rfl (lv_at hl 3 rfl) ?_
  refine lv_icmp_le (tgt := 45) hx hb d_B_mostJoined_37 (by decide) (fun c_1 => ?_) (fun c_1 => ?_)
  · have h := ite_T c_1 h
    refine lv_iinc (v := x3 + 1) (lv' := [(3, .int (x3 + 1)), (4, .int y0), (0, .ref (a 0)), (1, .int x1), (2, .int x2)]) hx hb d_B_mostJoined_45 hl (k := 4) rfl rfl (by decide) rfl (fun ls hl => ?_)
    refine lv_goto (tgt := 6) hx hb d_B_mostJoined_48 (by decide) ?_
    exact hrec6 _ _ _ _ _ _ _ _ h _ _ _ hP hD hS (lv_sub hl [2, 3, 4, 0] rfl)
  · have h := ite_F c_1 h
    refine lv_iload_n hx hb d_B_mostJoined_40 rfl (lv_at hl 4 rfl) ?_
    refine lv_istore_n (lv' := [(1, .int x3), (4, .int y0), (0, .ref (a 0)), (2, .int x2), (3, .int x3)]) hx hb d_B_mostJoined_41 rfl hl (by decide) rfl (fun ls hl => ?_)
    refine lv_iload hx hb d_B_mostJoined_42 (lv_at hl 1 rfl) ?_
    refine lv_istore_n (lv' := [(2, .int y0), (1, .int x3), (4, .int y0), (0, .ref (a 0)), (3, .int x3)]) hx hb d_B_mostJoined_44 rfl hl (by decide) rfl (fun ls hl => ?_)
    refine lv_iinc (v := x3 + 1) (lv' := [(3, .int (x3 + 1)), (2, .int y0), (1, .int x3), (4, .int y0), (0, .ref (a 0))]) hx hb d_B_mostJoined_45 hl (k := 4) rfl rfl (by decide) rfl (fun ls hl => ?_)
    refine lv_goto (tgt := 6) hx hb d_B_mostJoined_48 (by decide) ?_
    exact hrec6 _ _ _ _ _ _ _ _ h _ _ _ hP hD hS (lv_sub hl [4, 2, 1, 0] rfl)
set_option maxHeartbeats 4000000 in
set_option maxRecDepth 100000 in
theorem k_B_mostJoined_6 {p : Program} {l : Launch} {e : Env} {s : State} {m : MethodId} {args : Array Value} {below : List Frame} {meth : Method} {c : Code} {D : va_G} {A : Nat → Prop} {a : Nat → Nat} {k : Nat → ClassId} {sg : Nat → Int32} {ci : Int32} {od : Nat → Int32} {ta : Nat → Int32} {we : Int32} {oe : Nat → Int32} {fp : Nat → Int32} {ro : Nat → Int64} {sp : Nat → Int64} {qr : Nat} {qs : Nat} {rec6 : Int32 → Int32 → Int32 → (Nat → Int32) → Int32 → (Nat → Int32) → (Nat → Int32) → Option (Int32)} (C : cx D [(k 1, .int), (k 2, .int), (k 3, .int), (k 4, .int), (k 5, .boolean), (k 6, .int), (k 8, .int), (k 9, .int), (k 11, .long)] R_B b_B_mostJoined 5 (some .int) A p s m args meth c) (hrec6 : H_B_mostJoined_6 p l e s m args below meth c D A a k sg ci od ta we oe fp ro sp qr qs rec6) : H_B_mostJoined_6 p l e s m args below meth c D A a k sg ci od ta we oe fp ro sp qr qs (J_B_mostJoined_6 rec6) := by
  obtain ⟨hx, hb, hr, hml, hown, ht, hlk, hA, hK⟩ := id C
  intro x1 x2 x3 lab cc sd go r h H locs ls hP hD hS hl
  unfold J_B_mostJoined_6 at h
  refine lv_iload_n hx hb d_B_mostJoined_6 rfl (lv_at hl 3 rfl) ?_
  refine lv_aload_n hx hb d_B_mostJoined_7 rfl (lv_at hl 0 rfl) ?_
  refine va_get (D := D) (ci := 0) (v := .int cc) (C := R_B) (T := F_B) (N := 11) hx hb ht iC_B hown hK hP 0 rfl rfl 2 (by decide) (ht _ ix_38) (fun _ h9 => h9) rfl d_B_mostJoined_8 ?_
  refine lv_icmp_ge (tgt := 51) hx hb d_B_mostJoined_11 (by decide) (fun c_1 => ?_) (fun c_1 => ?_)
  · have h := ite_T c_1 h
    refine lv_iload_n hx hb d_B_mostJoined_51 rfl (lv_at hl 1 rfl) ?_
    cases h
    exact W.iret hx hb hr (fun t ht hW => ⟨⟨_, (), rfl, rfl, by rw [ht]; exact hP, va_K.moved hW.alike hK, hD⟩, hS.F ht⟩) hS.2.2 d_B_mostJoined_52 hlk
  · have h := ite_F c_1 h
    refine lv_aload_n hx hb d_B_mostJoined_14 rfl (lv_at hl 0 rfl) ?_
    refine va_get (D := D) (ci := 0) (v := .ref (a 5)) (C := R_B) (T := F_B) (N := 11) hx hb ht iC_B hown hK hP 0 rfl rfl 6 (by decide) (ht _ ix_59) (fun _ h9 => h9) rfl d_B_mostJoined_15 ?_
    refine lv_iload_n hx hb d_B_mostJoined_18 rfl (lv_at hl 3 rfl) ?_
    obtain ⟨g_2, h⟩ := gd_some h
    refine va_zald hx hb hK hP 5 4 rfl rfl (inb_in g_2) d_B_mostJoined_19 ?_
    refine lv_if_eq (tgt := 27) hx hb d_B_mostJoined_20 (by decide) (fun c_3 => ?_) (fun c_3 => ?_)
    · have h := ite_T c_3 h
      refine lv_aload_n hx hb d_B_mostJoined_27 rfl (lv_at hl 0 rfl) ?_
      refine lv_iload_n hx hb d_B_mostJoined_28 rfl (lv_at hl 3 rfl) ?_
      obtain ⟨v_4, e_4, h⟩ := bd_some h
      refine go_Vi (r := v_4) (As := [.int x3]) (rest := []) (wc := (wB a k lab sg cc ci od sd go ta we oe fp ro sp qr qs)) (wr := []) (w1 := (wB a k lab sg cc ci od sd go ta we oe fp ro sp qr qs)) (w2 := (wB a k lab sg cc ci od sd go ta we oe fp ro sp qr qs)) (tc := [(k 1, .int), (k 2, .int), (k 3, .int), (k 4, .int), (k 5, .boolean), (k 6, .int), (k 8, .int), (k 9, .int), (k 11, .long)]) hx hb hml hown ht (c_B_placesJoined l D a k H.size x3 lab sg cc ci od sd go ta we oe fp ro sp qr qs v_4 e_4) g_B_139 ⟨rfl, rfl⟩ (n := 1) (by decide +kernel) ⟨(Nat.le_of_ble_eq_true rfl), (Nat.le_of_ble_eq_true rfl)⟩ hP hD hK hS hA ⟨Nat.zero_le _, Nat.zero_le _⟩ [0, 1, 2, 3, 4, 5, 6, 7, 8, 9, 10, 11, 12] [] [0, 1, 2, 3, 4, 5, 6, 7, 8] [0, 1, 2, 3, 4, 5, 6, 7, 8, 9, 10, 11, 12] rfl rfl rfl rfl (by decide) (by decide) (by decide) rfl (by decide) 0 rfl rfl rfl rfl rfl hl.1 (Nat.le_of_ble_eq_true rfl) d_B_mostJoined_29 (fun H locs hP hD hS => ?_)
      exact (k_B_mostJoined_32 C hrec6) _ _ _ _ _ _ _ _ _ h _ _ _ hP hD hS (lv_sub hl [0, 1, 2, 3] rfl)
    · have h := ite_F c_3 h
      refine lv_iconst (v := (-1)) hx hb d_B_mostJoined_23 (by decide) ?_
      refine lv_goto (tgt := 32) hx hb d_B_mostJoined_24 (by decide) ?_
      exact (k_B_mostJoined_32 C hrec6) _ _ _ _ _ _ _ _ _ h _ _ _ hP hD hS (lv_sub hl [0, 1, 2, 3] rfl)
theorem k_B_mostJoined_6_L {p : Program} {l : Launch} {e : Env} {s : State} {m : MethodId} {args : Array Value} {below : List Frame} {meth : Method} {c : Code} {D : va_G} {A : Nat → Prop} {a : Nat → Nat} {k : Nat → ClassId} {sg : Nat → Int32} {ci : Int32} {od : Nat → Int32} {ta : Nat → Int32} {we : Int32} {oe : Nat → Int32} {fp : Nat → Int32} {ro : Nat → Int64} {sp : Nat → Int64} {qr : Nat} {qs : Nat} (C : cx D [(k 1, .int), (k 2, .int), (k 3, .int), (k 4, .int), (k 5, .boolean), (k 6, .int), (k 8, .int), (k 9, .int), (k 11, .long)] R_B b_B_mostJoined 5 (some .int) A p s m args meth c) : ∀ n : Nat, H_B_mostJoined_6 p l e s m args below meth c D A a k sg ci od ta we oe fp ro sp qr qs (L_B_mostJoined_6 n)
  | 0 => fun _ _ _ _ _ _ _ _ h => nomatch h
  | n + 1 => k_B_mostJoined_6 C (k_B_mostJoined_6_L C n)
set_option maxHeartbeats 4000000 in
set_option maxRecDepth 100000 in
theorem k_B_mostJoined_0 {p : Program} {l : Launch} {e : Env} {s : State} {m : MethodId} {args : Array Value} {below : List Frame} {meth : Method} {c : Code} {D : va_G} {A : Nat → Prop} {a : Nat → Nat} {k : Nat → ClassId} {sg : Nat → Int32} {ci : Int32} {od : Nat → Int32} {ta : Nat → Int32} {we : Int32} {oe : Nat → Int32} {fp : Nat → Int32} {ro : Nat → Int64} {sp : Nat → Int64} {qr : Nat} {qs : Nat} (C : cx D [(k 1, .int), (k 2, .int), (k 3, .int), (k 4, .int), (k 5, .boolean), (k 6, .int), (k 8, .int), (k 9, .int), (k 11, .long)] R_B b_B_mostJoined 5 (some .int) A p s m args meth c) : H_B_mostJoined_0 p l e s m args below meth c D A a k sg ci od ta we oe fp ro sp qr qs (J_B_mostJoined_0) := by
  obtain ⟨hx, hb, hr, hml, hown, ht, hlk, hA, hK⟩ := id C
  intro lab cc sd go r h H locs ls hP hD hS hl
  unfold J_B_mostJoined_0 at h
  refine lv_iconst (v := 0) hx hb d_B_mostJoined_0 (by decide) ?_
  refine lv_istore_n (lv' := [(1, .int (0 : Int32)), (0, .ref (a 0))]) hx hb d_B_mostJoined_1 rfl hl (by decide) rfl (fun ls hl => ?_)
  refine lv_iconst (v := (-1)) hx hb d_B_mostJoined_2 (by decide) ?_
  refine lv_istore_n (lv' := [(2, .int (-1 : Int32)), (1, .int (0 : Int32)), (0, .ref (a 0))]) hx hb d_B_mostJoined_3 rfl hl (by decide) rfl (fun ls hl => ?_)
  refine lv_iconst (v := 0) hx hb d_B_mostJoined_4 (by decide) ?_
  refine lv_istore_n (lv' := [(3, .int (0 : Int32)), (2, .int (-1 : Int32)), (1, .int (0 : Int32)), (0, .ref (a 0))]) hx hb d_B_mostJoined_5 rfl hl (by decide) rfl (fun ls hl => ?_)
  exact (k_B_mostJoined_6_L C fu) _ _ _ _ _ _ _ _ h _ _ _ hP hD hS (lv_sub hl [3, 2, 1, 0] rfl)
set_option maxRecDepth 20000 in
theorem c_B_mostJoined (l : Launch) (D : va_G) (a : Nat → Nat) (k : Nat → ClassId) (sz : Nat) (lab : Nat → Int32) (sg : Nat → Int32) (cc : Int32) (ci : Int32) (od : Nat → Int32) (sd : Nat → Int32) (go : Nat → Int32) (ta : Nat → Int32) (we : Int32) (oe : Nat → Int32) (fp : Nat → Int32) (ro : Nat → Int64) (sp : Nat → Int64) (qr : Nat) (qs : Nat) (r : Int32) (h : F_B_mostJoined lab cc sd go = some r) : Met l y_B_mostJoined (Cond.code y_B_mostJoined b_B_mostJoined 5 (some .int) :: lw_g) (rm_B_mostJoined) (va_Pc [.ref (a 0)] (pcW D [(k 1, .int), (k 2, .int), (k 3, .int), (k 4, .int), (k 5, .boolean), (k 6, .int), (k 8, .int), (k 9, .int), (k 11, .long)] (wB a k lab sg cc ci od sd go ta we oe fp ro sp qr qs) sz)) (qc_B_mostJoined D (va_A (wB a k lab sg cc ci od sd go ta we oe fp ro sp qr qs) sz) a k lab sg cc ci od sd go ta we oe fp ro sp qr qs r) 0 0 (va_A (wB a k lab sg cc ci od sd go ta we oe fp ro sp qr qs) sz) := by
  refine Met.ofW (cc := b_B_mostJoined) (maxL := 5) (ret := (some .int)) (by decide) rfl ?_
  intro p e s m args below meth c s₁ B hml hv
  obtain ⟨rfl, hsz, hP, hK, hD0⟩ := hv
  have hts := atoms_spec (ws := Cond.code y_B_mostJoined b_B_mostJoined 5 (some .int) :: lw_g) B.pre
  subst hsz
  have hD := hD0.self (sz := s.heap.size)
  have hl := lv_entry ([.ref (a 0)]) (n := 5) (Nat.le_of_ble_eq_true rfl)
  rw [lg_entry_eq]
  generalize (lg_sl ([.ref (a 0)]) ++ List.replicate (5 - (lg_sl ([.ref (a 0)])).length) Slot.unset).toArray = ls at hl ⊢
  exact k_B_mostJoined_0 ⟨B.exec, B.bytes, B.returns, hml, findClass_of_methodNamed B.named, fun w hw => hts w (List.mem_cons_of_mem _ hw), B.notSynchronized, fun q h => Or.inr h, hK⟩ _ _ _ _ _ h _ _ _ hP hD va_S.rf hl

def rm_B_goOver : Room := { frames := 0, cells := 0, slots := 0, locals := 0 }
def qc_B_goOver (D : va_G) (A : Nat → Prop) (a : Nat → Nat) (k : Nat → ClassId) (lab : Nat → Int32) (sg : Nat → Int32) (cc : Int32) (ci : Int32) (od : Nat → Int32) (ta : Nat → Int32) (we : Int32) (oe : Nat → Int32) (fp : Nat → Int32) (ro : Nat → Int64) (sp : Nat → Int64) (qr : Nat) (qs : Nat) (r : Int32 × (Nat → Int32) × (Nat → Int32)) : Array Value → State → Outcome → State → Prop := va_Qi (fun (r1 : Int32) (_ : Unit) => r1 = r.1) (poW D [(k 1, .int), (k 2, .int), (k 3, .int), (k 4, .int), (k 5, .boolean), (k 6, .int), (k 8, .int), (k 9, .int), (k 11, .long)] (wB a k lab sg cc ci od r.2.1 r.2.2 ta we oe fp ro sp qr qs) A) A
def J_B_goOver_6 (rec6 : Int32 → Int32 → Int32 → (Nat → Int32) → (Nat → Int32) → (Nat → Int32) → Option (Int32 × (Nat → Int32) × (Nat → Int32))) (x1 : Int32) (x2 : Int32) (x3 : Int32) (lab : Nat → Int32) (sd : Nat → Int32) (go : Nat → Int32) : Option (Int32 × (Nat → Int32) × (Nat → Int32)) :=
  (if ((4 : Int32) * (x1 + (1 : Int32))) ≤ x3 then (if inb x1 10 then some (x2, sd, (upd go x1.toNatClampNeg (vp_nar .boolean (1 : Int32)))) else none) else (if inb x3 40 then (if inb (lab x3.toNatClampNeg) 100 then (if inb (lab x3.toNatClampNeg) 100 then (if inb x3 40 then (if inb (lab x3.toNatClampNeg) 100 then (if ((upd sd (lab x3.toNatClampNeg).toNatClampNeg ((sd (lab x3.toNatClampNeg).toNatClampNeg) + (1 : Int32))) (lab x3.toNatClampNeg).toNatClampNeg) = (1 : Int32) then rec6 x1 (x2 + (1 : Int32)) (x3 + 1) lab (upd sd (lab x3.toNatClampNeg).toNatClampNeg ((sd (lab x3.toNatClampNeg).toNatClampNeg) + (1 : Int32))) go else rec6 x1 (x2 + (-1 : Int32)) (x3 + 1) lab (upd sd (lab x3.toNatClampNeg).toNatClampNeg ((sd (lab x3.toNatClampNeg).toNatClampNeg) + (1 : Int32))) go) else none) else none) else none) else none) else none))
def L_B_goOver_6 : Nat → Int32 → Int32 → Int32 → (Nat → Int32) → (Nat → Int32) → (Nat → Int32) → Option (Int32 × (Nat → Int32) × (Nat → Int32))
  | 0 => fun _ _ _ _ _ _ => none
  | n + 1 => J_B_goOver_6 (L_B_goOver_6 n)
def J_B_goOver_0 (x1 : Int32) (lab : Nat → Int32) (sd : Nat → Int32) (go : Nat → Int32) : Option (Int32 × (Nat → Int32) × (Nat → Int32)) :=
  L_B_goOver_6 fu x1 (0 : Int32) ((4 : Int32) * x1) lab sd go
def F_B_goOver (x1 : Int32) (lab : Nat → Int32) (sd : Nat → Int32) (go : Nat → Int32) : Option (Int32 × (Nat → Int32) × (Nat → Int32)) := J_B_goOver_0 x1 lab sd go
def H_B_goOver_6 (p : Program) (l : Launch) (e : Env) (s : State) (m : MethodId) (args : Array Value) (below : List Frame) (meth : Method) (c : Code) (D : va_G) (A : Nat → Prop) (a : Nat → Nat) (k : Nat → ClassId) (sg : Nat → Int32) (cc : Int32) (ci : Int32) (od : Nat → Int32) (ta : Nat → Int32) (we : Int32) (oe : Nat → Int32) (fp : Nat → Int32) (ro : Nat → Int64) (sp : Nat → Int64) (qr : Nat) (qs : Nat) (f : Int32 → Int32 → Int32 → (Nat → Int32) → (Nat → Int32) → (Nat → Int32) → Option (Int32 × (Nat → Int32) × (Nat → Int32))) : Prop := ∀ (x1 : Int32) (x2 : Int32) (x3 : Int32) (lab : Nat → Int32) (sd : Nat → Int32) (go : Nat → Int32) (r : Int32 × (Nat → Int32) × (Nat → Int32)), f x1 x2 x3 lab sd go = some r → ∀ (H : Heap) (locs : List Loc) (ls : Array Slot), va_P D classes (wB a k lab sg cc ci od sd go ta we oe fp ro sp qr qs) H → va_D A (wB a k lab sg cc ci od sd go ta we oe fp ro sp qr qs) → va_S A s.heap H locs → lv_has ls 4 [(0, .ref (a 0)), (1, .int x1), (2, .int x2), (3, .int x3)] → W p l e (rm_B_goOver) s m args below meth c H locs 0 0 (MQ below (qc_B_goOver D A a k lab sg cc ci od ta we oe fp ro sp qr qs r) args s 0 0 A) (F0 m 6 ls [])
def H_B_goOver_0 (p : Program) (l : Launch) (e : Env) (s : State) (m : MethodId) (args : Array Value) (below : List Frame) (meth : Method) (c : Code) (D : va_G) (A : Nat → Prop) (a : Nat → Nat) (k : Nat → ClassId) (sg : Nat → Int32) (cc : Int32) (ci : Int32) (od : Nat → Int32) (ta : Nat → Int32) (we : Int32) (oe : Nat → Int32) (fp : Nat → Int32) (ro : Nat → Int64) (sp : Nat → Int64) (qr : Nat) (qs : Nat) (f : Int32 → (Nat → Int32) → (Nat → Int32) → (Nat → Int32) → Option (Int32 × (Nat → Int32) × (Nat → Int32))) : Prop := ∀ (x1 : Int32) (lab : Nat → Int32) (sd : Nat → Int32) (go : Nat → Int32) (r : Int32 × (Nat → Int32) × (Nat → Int32)), f x1 lab sd go = some r → ∀ (H : Heap) (locs : List Loc) (ls : Array Slot), va_P D classes (wB a k lab sg cc ci od sd go ta we oe fp ro sp qr qs) H → va_D A (wB a k lab sg cc ci od sd go ta we oe fp ro sp qr qs) → va_S A s.heap H locs → lv_has ls 4 [(0, .ref (a 0)), (1, .int x1)] → W p l e (rm_B_goOver) s m args below meth c H locs 0 0 (MQ below (qc_B_goOver D A a k lab sg cc ci od ta we oe fp ro sp qr qs r) args s 0 0 A) (F0 m 0 ls [])
set_option maxHeartbeats 4000000 in
set_option maxRecDepth 100000 in
theorem k_B_goOver_6 {p : Program} {l : Launch} {e : Env} {s : State} {m : MethodId} {args : Array Value} {below : List Frame} {meth : Method} {c : Code} {D : va_G} {A : Nat → Prop} {a : Nat → Nat} {k : Nat → ClassId} {sg : Nat → Int32} {cc : Int32} {ci : Int32} {od : Nat → Int32} {ta : Nat → Int32} {we : Int32} {oe : Nat → Int32} {fp : Nat → Int32} {ro : Nat → Int64} {sp : Nat → Int64} {qr : Nat} {qs : Nat} {rec6 : Int32 → Int32 → Int32 → (Nat → Int32) → (Nat → Int32) → (Nat → Int32) → Option (Int32 × (Nat → Int32) × (Nat → Int32))} (C : cx D [(k 1, .int), (k 2, .int), (k 3, .int), (k 4, .int), (k 5, .boolean), (k 6, .int), (k 8, .int), (k 9, .int), (k 11, .long)] R_B b_B_goOver 4 (some .int) A p s m args meth c) (hrec6 : H_B_goOver_6 p l e s m args below meth c D A a k sg cc ci od ta we oe fp ro sp qr qs rec6) : H_B_goOver_6 p l e s m args below meth c D A a k sg cc ci od ta we oe fp ro sp qr qs (J_B_goOver_6 rec6) := by
  obtain ⟨hx, hb, hr, hml, hown, ht, hlk, hA, hK⟩ := id C
  intro x1 x2 x3 lab sd go r h H locs ls hP hD hS hl
  unfold J_B_goOver_6 at h
  refine lv_iload_n hx hb d_B_goOver_6 rfl (lv_at hl 3 rfl) ?_
  refine lv_iconst (v := 4) hx hb d_B_goOver_7 (by decide) ?_
  refine lv_iload_n hx hb d_B_goOver_8 rfl (lv_at hl 1 rfl) ?_
  refine lv_iconst (v := 1) hx hb d_B_goOver_9 (by decide) ?_
  refine lv_iadd hx hb d_B_goOver_10 ?_
  refine lv_imul hx hb d_B_goOver_11 ?_
  refine lv_icmp_ge (tgt := 59) hx hb d_B_goOver_12 (by decide) (fun c_1 => ?_) (fun c_1 => ?_)
  · have h := ite_T c_1 h
    refine lv_aload_n hx hb d_B_goOver_59 rfl (lv_at hl 0 rfl) ?_
    refine va_get (D := D) (ci := 0) (v := .ref (a 5)) (C := R_B) (T := F_B) (N := 11) hx hb ht iC_B hown hK hP 0 rfl rfl 6 (by decide) (ht _ ix_59) (fun _ h9 => h9) rfl d_B_goOver_60 ?_
    refine lv_iload_n hx hb d_B_goOver_63 rfl (lv_at hl 1 rfl) ?_
    refine lv_iconst (v := 1) hx hb d_B_goOver_64 (by decide) ?_
    obtain ⟨g_2, h⟩ := gd_some h
    refine va_zast hx hb hK hP hD hS 5 4 rfl rfl (inb_in g_2) d_B_goOver_65 (fun H locs hP hD hS => ?_)
    have hP : va_P D classes (wB a k lab sg cc ci od sd (upd go x1.toNatClampNeg (vp_nar .boolean (1 : Int32))) ta we oe fp ro sp qr qs) H := hP
    have hD : va_D A (wB a k lab sg cc ci od sd (upd go x1.toNatClampNeg (vp_nar .boolean (1 : Int32))) ta we oe fp ro sp qr qs) := hD
    refine lv_iload_n hx hb d_B_goOver_66 rfl (lv_at hl 2 rfl) ?_
    cases h
    exact W.iret hx hb hr (fun t ht hW => ⟨⟨_, (), rfl, rfl, by rw [ht]; exact hP, va_K.moved hW.alike hK, hD⟩, hS.F ht⟩) hS.2.2 d_B_goOver_67 hlk
  · have h := ite_F c_1 h
    refine lv_aload_n hx hb d_B_goOver_15 rfl (lv_at hl 0 rfl) ?_
    refine va_get (D := D) (ci := 0) (v := .ref (a 4)) (C := R_B) (T := F_B) (N := 11) hx hb ht iC_B hown hK hP 0 rfl rfl 5 (by decide) (ht _ ix_41) (fun _ h9 => h9) rfl d_B_goOver_16 ?_
    refine lv_aload_n hx hb d_B_goOver_19 rfl (lv_at hl 0 rfl) ?_
    refine va_get (D := D) (ci := 0) (v := .ref (a 1)) (C := R_B) (T := F_B) (N := 11) hx hb ht iC_B hown hK hP 0 rfl rfl 0 (by decide) (ht _ ix_43) (fun _ h9 => h9) rfl d_B_goOver_20 ?_
    refine lv_iload_n hx hb d_B_goOver_23 rfl (lv_at hl 3 rfl) ?_
    obtain ⟨g_3, h⟩ := gd_some h
    refine va_iald hx hb hK hP 1 0 rfl rfl (inb_in g_3) d_B_goOver_24 ?_
    refine lv_dup2_11 hx hb d_B_goOver_25 rfl rfl ?_
    obtain ⟨g_4, h⟩ := gd_some h
    refine va_iald hx hb hK hP 4 3 rfl rfl (inb_in g_4) d_B_goOver_26 ?_
    refine lv_iconst (v := 1) hx hb d_B_goOver_27 (by decide) ?_
    refine lv_iadd hx hb d_B_goOver_28 ?_
    obtain ⟨g_5, h⟩ := gd_some h
    refine va_iast hx hb hK hP hD hS 4 3 rfl rfl (inb_in g_5) d_B_goOver_29 (fun H locs hP hD hS => ?_)
    have hP : va_P D classes (wB a k lab sg cc ci od (upd sd (lab x3.toNatClampNeg).toNatClampNeg ((sd (lab x3.toNatClampNeg).toNatClampNeg) + (1 : Int32))) go ta we oe fp ro sp qr qs) H := hP
    have hD : va_D A (wB a k lab sg cc ci od (upd sd (lab x3.toNatClampNeg).toNatClampNeg ((sd (lab x3.toNatClampNeg).toNatClampNeg) + (1 : Int32))) go ta we oe fp ro sp qr qs) := hD
    refine lv_iload_n hx hb d_B_goOver_30 rfl (lv_at hl 2 rfl) ?_
    refine lv_aload_n hx hb d_B_goOver_31 rfl (lv_at hl 0 rfl) ?_
    refine va_get (D := D) (ci := 0) (v := .ref (a 4)) (C := R_B) (T := F_B) (N := 11) hx hb ht iC_B hown hK hP 0 rfl rfl 5 (by decide) (ht _ ix_41) (fun _ h9 => h9) rfl d_B_goOver_32 ?_
    refine lv_aload_n hx hb d_B_goOver_35 rfl (lv_at hl 0 rfl) ?_
    refine va_get (D := D) (ci := 0) (v := .ref (a 1)) (C := R_B) (T := F_B) (N := 11) hx hb ht iC_B hown hK hP 0 rfl rfl 0 (by decide) (ht _ ix_43) (fun _ h9 => h9) rfl d_B_goOver_36 ?_
    refine lv_iload_n hx hb d_B_goOver_39 rfl (lv_at hl 3 rfl) ?_
    obtain ⟨g_6, h⟩ := gd_some h
    refine va_iald hx hb hK hP 1 0 rfl rfl (inb_in g_6) d_B_goOver_40 ?_
    obtain ⟨g_7, h⟩ := gd_some h
    refine va_iald hx hb hK hP 4 3 rfl rfl (inb_in g_7) d_B_goOver_41 ?_
    refine lv_iconst (v := 1) hx hb d_B_goOver_42 (by decide) ?_
    refine lv_icmp_ne (tgt := 50) hx hb d_B_goOver_43 (by decide) (fun c_8 => ?_) (fun c_8 => ?_)
    · have h := ite_F c_8 h
      refine lv_iconst (v := (-1)) hx hb d_B_goOver_50 (by decide) ?_
      refine lv_iadd hx hb d_B_goOver_51 ?_
      refine lv_istore_n (lv' := [(2, .int (x2 + (-1 : Int32))), (0, .ref (a 0)), (1, .int x1), (3, .int x3)]) hx hb d_B_goOver_52 rfl hl (by decide) rfl (fun ls hl => ?_)
      refine lv_iinc (v := x3 + 1) (lv' := [(3, .int (x3 + 1)), (2, .int (x2 + (-1 : Int32))), (0, .ref (a 0)), (1, .int x1)]) hx hb d_B_goOver_53 hl (k := 3) rfl rfl (by decide) rfl (fun ls hl => ?_)
      refine lv_goto (tgt := 6) hx hb d_B_goOver_56 (by decide) ?_
      exact hrec6 _ _ _ _ _ _ _ h _ _ _ hP hD hS (lv_sub hl [2, 3, 1, 0] rfl)
    · have h := ite_T c_8 h
      refine lv_iconst (v := 1) hx hb d_B_goOver_46 (by decide) ?_
      refine lv_goto (tgt := 51) hx hb d_B_goOver_47 (by decide) ?_
      refine lv_iadd hx hb d_B_goOver_51 ?_
      refine lv_istore_n (lv' := [(2, .int (x2 + (1 : Int32))), (0, .ref (a 0)), (1, .int x1), (3, .int x3)]) hx hb d_B_goOver_52 rfl hl (by decide) rfl (fun ls hl => ?_)
      refine lv_iinc (v := x3 + 1) (lv' := [(3, .int (x3 + 1)), (2, .int (x2 + (1 : Int32))), (0, .ref (a 0)), (1, .int x1)]) hx hb d_B_goOver_53 hl (k := 3) rfl rfl (by decide) rfl (fun ls hl => ?_)
      refine lv_goto (tgt := 6) hx hb d_B_goOver_56 (by decide) ?_
      exact hrec6 _ _ _ _ _ _ _ h _ _ _ hP hD hS (lv_sub hl [2, 3, 1, 0] rfl)
theorem k_B_goOver_6_L {p : Program} {l : Launch} {e : Env} {s : State} {m : MethodId} {args : Array Value} {below : List Frame} {meth : Method} {c : Code} {D : va_G} {A : Nat → Prop} {a : Nat → Nat} {k : Nat → ClassId} {sg : Nat → Int32} {cc : Int32} {ci : Int32} {od : Nat → Int32} {ta : Nat → Int32} {we : Int32} {oe : Nat → Int32} {fp : Nat → Int32} {ro : Nat → Int64} {sp : Nat → Int64} {qr : Nat} {qs : Nat} (C : cx D [(k 1, .int), (k 2, .int), (k 3, .int), (k 4, .int), (k 5, .boolean), (k 6, .int), (k 8, .int), (k 9, .int), (k 11, .long)] R_B b_B_goOver 4 (some .int) A p s m args meth c) : ∀ n : Nat, H_B_goOver_6 p l e s m args below meth c D A a k sg cc ci od ta we oe fp ro sp qr qs (L_B_goOver_6 n)
  | 0 => fun _ _ _ _ _ _ _ h => nomatch h
  | n + 1 => k_B_goOver_6 C (k_B_goOver_6_L C n)
set_option maxHeartbeats 4000000 in
set_option maxRecDepth 100000 in
theorem k_B_goOver_0 {p : Program} {l : Launch} {e : Env} {s : State} {m : MethodId} {args : Array Value} {below : List Frame} {meth : Method} {c : Code} {D : va_G} {A : Nat → Prop} {a : Nat → Nat} {k : Nat → ClassId} {sg : Nat → Int32} {cc : Int32} {ci : Int32} {od : Nat → Int32} {ta : Nat → Int32} {we : Int32} {oe : Nat → Int32} {fp : Nat → Int32} {ro : Nat → Int64} {sp : Nat → Int64} {qr : Nat} {qs : Nat} (C : cx D [(k 1, .int), (k 2, .int), (k 3, .int), (k 4, .int), (k 5, .boolean), (k 6, .int), (k 8, .int), (k 9, .int), (k 11, .long)] R_B b_B_goOver 4 (some .int) A p s m args meth c) : H_B_goOver_0 p l e s m args below meth c D A a k sg cc ci od ta we oe fp ro sp qr qs (J_B_goOver_0) := by
  obtain ⟨hx, hb, hr, hml, hown, ht, hlk, hA, hK⟩ := id C
  intro x1 lab sd go r h H locs ls hP hD hS hl
  unfold J_B_goOver_0 at h
  refine lv_iconst (v := 0) hx hb d_B_goOver_0 (by decide) ?_
  refine lv_istore_n (lv' := [(2, .int (0 : Int32)), (0, .ref (a 0)), (1, .int x1)]) hx hb d_B_goOver_1 rfl hl (by decide) rfl (fun ls hl => ?_)
  refine lv_iconst (v := 4) hx hb d_B_goOver_2 (by decide) ?_
  refine lv_iload_n hx hb d_B_goOver_3 rfl (lv_at hl 2 rfl) ?_
  refine lv_imul hx hb d_B_goOver_4 ?_
  refine lv_istore_n (lv' := [(3, .int ((4 : Int32) * x1)), (2, .int (0 : Int32)), (0, .ref (a 0)), (1, .int x1)]) hx hb d_B_goOver_5 rfl hl (by decide) rfl (fun ls hl => ?_)
  exact (k_B_goOver_6_L C fu) _ _ _ _ _ _ _ h _ _ _ hP hD hS (lv_sub hl [2, 3, 1, 0] rfl)
set_option maxRecDepth 20000 in
theorem c_B_goOver (l : Launch) (D : va_G) (a : Nat → Nat) (k : Nat → ClassId) (sz : Nat) (x1 : Int32) (lab : Nat → Int32) (sg : Nat → Int32) (cc : Int32) (ci : Int32) (od : Nat → Int32) (sd : Nat → Int32) (go : Nat → Int32) (ta : Nat → Int32) (we : Int32) (oe : Nat → Int32) (fp : Nat → Int32) (ro : Nat → Int64) (sp : Nat → Int64) (qr : Nat) (qs : Nat) (r : Int32 × (Nat → Int32) × (Nat → Int32)) (h : F_B_goOver x1 lab sd go = some r) : Met l y_B_goOver (Cond.code y_B_goOver b_B_goOver 4 (some .int) :: lw_g) (rm_B_goOver) (va_Pc [.ref (a 0), .int x1] (pcW D [(k 1, .int), (k 2, .int), (k 3, .int), (k 4, .int), (k 5, .boolean), (k 6, .int), (k 8, .int), (k 9, .int), (k 11, .long)] (wB a k lab sg cc ci od sd go ta we oe fp ro sp qr qs) sz)) (qc_B_goOver D (va_A (wB a k lab sg cc ci od sd go ta we oe fp ro sp qr qs) sz) a k lab sg cc ci od ta we oe fp ro sp qr qs r) 0 0 (va_A (wB a k lab sg cc ci od sd go ta we oe fp ro sp qr qs) sz) := by
  refine Met.ofW (cc := b_B_goOver) (maxL := 4) (ret := (some .int)) (by decide) rfl ?_
  intro p e s m args below meth c s₁ B hml hv
  obtain ⟨rfl, hsz, hP, hK, hD0⟩ := hv
  have hts := atoms_spec (ws := Cond.code y_B_goOver b_B_goOver 4 (some .int) :: lw_g) B.pre
  subst hsz
  have hD := hD0.self (sz := s.heap.size)
  have hl := lv_entry ([.ref (a 0), .int x1]) (n := 4) (Nat.le_of_ble_eq_true rfl)
  rw [lg_entry_eq]
  generalize (lg_sl ([.ref (a 0), .int x1]) ++ List.replicate (4 - (lg_sl ([.ref (a 0), .int x1])).length) Slot.unset).toArray = ls at hl ⊢
  exact k_B_goOver_0 ⟨B.exec, B.bytes, B.returns, hml, findClass_of_methodNamed B.named, fun w hw => hts w (List.mem_cons_of_mem _ hw), B.notSynchronized, fun q h => Or.inr h, hK⟩ _ _ _ _ _ h _ _ _ hP hD va_S.rf hl

def rm_B_unite : Room := { frames := 2, cells := 0, slots := 0, locals := 36 }
def qc_B_unite (D : va_G) (A : Nat → Prop) (a : Nat → Nat) (k : Nat → ClassId) (sg : Nat → Int32) (cc : Int32) (ci : Int32) (od : Nat → Int32) (sd : Nat → Int32) (go : Nat → Int32) (ta : Nat → Int32) (we : Int32) (oe : Nat → Int32) (fp : Nat → Int32) (ro : Nat → Int64) (sp : Nat → Int64) (qr : Nat) (qs : Nat) (r : (Nat → Int32)) : Array Value → State → Outcome → State → Prop := va_Qv (fun (_ : Unit) => True) (poW D [(k 1, .int), (k 2, .int), (k 3, .int), (k 4, .int), (k 5, .boolean), (k 6, .int), (k 8, .int), (k 9, .int), (k 11, .long)] (wB a k r sg cc ci od sd go ta we oe fp ro sp qr qs) A) A
def J_B_unite_2 (rec2 : Int32 → Int32 → Int32 → (Nat → Int32) → Int32 → Option ((Nat → Int32))) (x1 : Int32) (x2 : Int32) (x3 : Int32) (lab : Nat → Int32) (cc : Int32) : Option ((Nat → Int32)) :=
  (if ((4 : Int32) * cc) ≤ x3 then some (lab) else (if inb x3 40 then (Option.bind (F_B_renamed (lab x3.toNatClampNeg) x1 x2) (fun v_3 => (if inb x3 40 then rec2 x1 x2 (x3 + 1) (upd lab x3.toNatClampNeg v_3) cc else none))) else none))
def L_B_unite_2 : Nat → Int32 → Int32 → Int32 → (Nat → Int32) → Int32 → Option ((Nat → Int32))
  | 0 => fun _ _ _ _ _ => none
  | n + 1 => J_B_unite_2 (L_B_unite_2 n)
def J_B_unite_0 (x1 : Int32) (x2 : Int32) (lab : Nat → Int32) (cc : Int32) : Option ((Nat → Int32)) :=
  L_B_unite_2 fu x1 x2 (0 : Int32) lab cc
def F_B_unite (x1 : Int32) (x2 : Int32) (lab : Nat → Int32) (cc : Int32) : Option ((Nat → Int32)) := J_B_unite_0 x1 x2 lab cc
def H_B_unite_2 (p : Program) (l : Launch) (e : Env) (s : State) (m : MethodId) (args : Array Value) (below : List Frame) (meth : Method) (c : Code) (D : va_G) (A : Nat → Prop) (a : Nat → Nat) (k : Nat → ClassId) (sg : Nat → Int32) (ci : Int32) (od : Nat → Int32) (sd : Nat → Int32) (go : Nat → Int32) (ta : Nat → Int32) (we : Int32) (oe : Nat → Int32) (fp : Nat → Int32) (ro : Nat → Int64) (sp : Nat → Int64) (qr : Nat) (qs : Nat) (f : Int32 → Int32 → Int32 → (Nat → Int32) → Int32 → Option ((Nat → Int32))) : Prop := ∀ (x1 : Int32) (x2 : Int32) (x3 : Int32) (lab : Nat → Int32) (cc : Int32) (r : (Nat → Int32)), f x1 x2 x3 lab cc = some r → ∀ (H : Heap) (locs : List Loc) (ls : Array Slot), va_P D classes (wB a k lab sg cc ci od sd go ta we oe fp ro sp qr qs) H → va_D A (wB a k lab sg cc ci od sd go ta we oe fp ro sp qr qs) → va_S A s.heap H locs → lv_has ls 4 [(0, .ref (a 0)), (1, .int x1), (2, .int x2), (3, .int x3)] → W p l e (rm_B_unite) s m args below meth c H locs 0 0 (MQ below (qc_B_unite D A a k sg cc ci od sd go ta we oe fp ro sp qr qs r) args s 0 0 A) (F0 m 2 ls [])
def H_B_unite_0 (p : Program) (l : Launch) (e : Env) (s : State) (m : MethodId) (args : Array Value) (below : List Frame) (meth : Method) (c : Code) (D : va_G) (A : Nat → Prop) (a : Nat → Nat) (k : Nat → ClassId) (sg : Nat → Int32) (ci : Int32) (od : Nat → Int32) (sd : Nat → Int32) (go : Nat → Int32) (ta : Nat → Int32) (we : Int32) (oe : Nat → Int32) (fp : Nat → Int32) (ro : Nat → Int64) (sp : Nat → Int64) (qr : Nat) (qs : Nat) (f : Int32 → Int32 → (Nat → Int32) → Int32 → Option ((Nat → Int32))) : Prop := ∀ (x1 : Int32) (x2 : Int32) (lab : Nat → Int32) (cc : Int32) (r : (Nat → Int32)), f x1 x2 lab cc = some r → ∀ (H : Heap) (locs : List Loc) (ls : Array Slot), va_P D classes (wB a k lab sg cc ci od sd go ta we oe fp ro sp qr qs) H → va_D A (wB a k lab sg cc ci od sd go ta we oe fp ro sp qr qs) → va_S A s.heap H locs → lv_has ls 4 [(0, .ref (a 0)), (1, .int x1), (2, .int x2)] → W p l e (rm_B_unite) s m args below meth c H locs 0 0 (MQ below (qc_B_unite D A a k sg cc ci od sd go ta we oe fp ro sp qr qs r) args s 0 0 A) (F0 m 0 ls [])
set_option maxHeartbeats 4000000 in
set_option maxRecDepth 100000 in
theorem k_B_unite_2 {p : Program} {l : Launch} {e : Env} {s : State} {m : MethodId} {args : Array Value} {below : List Frame} {meth : Method} {c : Code} {D : va_G} {A : Nat → Prop} {a : Nat → Nat} {k : Nat → ClassId} {sg : Nat → Int32} {ci : Int32} {od : Nat → Int32} {sd : Nat → Int32} {go : Nat → Int32} {ta : Nat → Int32} {we : Int32} {oe : Nat → Int32} {fp : Nat → Int32} {ro : Nat → Int64} {sp : Nat → Int64} {qr : Nat} {qs : Nat} {rec2 : Int32 → Int32 → Int32 → (Nat → Int32) → Int32 → Option ((Nat → Int32))} (C : cx D [(k 1, .int), (k 2, .int), (k 3, .int), (k 4, .int), (k 5, .boolean), (k 6, .int), (k 8, .int), (k 9, .int), (k 11, .long)] R_B b_B_unite 4 none A p s m args meth c) (hrec2 : H_B_unite_2 p l e s m args below meth c D A a k sg ci od sd go ta we oe fp ro sp qr qs rec2) : H_B_unite_2 p l e s m args below meth c D A a k sg ci od sd go ta we oe fp ro sp qr qs (J_B_unite_2 rec2) := by
  obtain ⟨hx, hb, hr, hml, hown, ht, hlk, hA, hK⟩ := id C
  intro x1 x2 x3 lab cc r h H locs ls hP hD hS hl
  unfold J_B_unite_2 at h
  refine lv_iload_n hx hb d_B_unite_2 rfl (lv_at hl 3 rfl) ?_
  refine lv_iconst (v := 4) hx hb d_B_unite_3 (by decide) ?_
  refine lv_aload_n hx hb d_B_unite_4 rfl (lv_at hl 0 rfl) ?_
  refine va_get (D := D) (ci := 0) (v := .int cc) (C := R_B) (T := F_B) (N := 11) hx hb ht iC_B hown hK hP 0 rfl rfl 2 (by decide) (ht _ ix_38) (fun _ h9 => h9) rfl d_B_unite_5 ?_
  refine lv_imul hx hb d_B_unite_8 ?_
  refine lv_icmp_ge (tgt := 35) hx hb d_B_unite_9 (by decide) (fun c_1 => ?_) (fun c_1 => ?_)
  · have h := ite_T c_1 h
    cases h
    exact W.vret hx hb hr (fun t ht hW => ⟨⟨(), rfl, trivial, by rw [ht]; exact hP, va_K.moved hW.alike hK, hD⟩, hS.F ht⟩) hS.2.2 d_B_unite_35 hlk
  · have h := ite_F c_1 h
    refine lv_aload_n hx hb d_B_unite_12 rfl (lv_at hl 0 rfl) ?_
    refine va_get (D := D) (ci := 0) (v := .ref (a 1)) (C := R_B) (T := F_B) (N := 11) hx hb ht iC_B hown hK hP 0 rfl rfl 0 (by decide) (ht _ ix_43) (fun _ h9 => h9) rfl d_B_unite_13 ?_
    refine lv_iload_n hx hb d_B_unite_16 rfl (lv_at hl 3 rfl) ?_
    refine lv_aload_n hx hb d_B_unite_17 rfl (lv_at hl 0 rfl) ?_
    refine va_get (D := D) (ci := 0) (v := .ref (a 1)) (C := R_B) (T := F_B) (N := 11) hx hb ht iC_B hown hK hP 0 rfl rfl 0 (by decide) (ht _ ix_43) (fun _ h9 => h9) rfl d_B_unite_18 ?_
    refine lv_iload_n hx hb d_B_unite_21 rfl (lv_at hl 3 rfl) ?_
    obtain ⟨g_2, h⟩ := gd_some h
    refine va_iald hx hb hK hP 1 0 rfl rfl (inb_in g_2) d_B_unite_22 ?_
    refine lv_iload_n hx hb d_B_unite_23 rfl (lv_at hl 1 rfl) ?_
    refine lv_iload_n hx hb d_B_unite_24 rfl (lv_at hl 2 rfl) ?_
    obtain ⟨v_3, e_3, h⟩ := bd_some h
    refine go_Si (r := v_3) (As := [.int (lab x3.toNatClampNeg), .int x1, .int x2]) (rest := [.int x3, .ref (a 1)]) (wc := (wN a k )) (wr := [((a 0), .inr (0, [.ref (a 1), .ref (a 2), .int cc, .int ci, .ref (a 3), .ref (a 4), .ref (a 5), .ref (a 6), .ref (a 7), .ref (a 10), .int we])), ((a 1), .inl (k 1, 40, .inl lab)), ((a 2), .inl (k 2, 10, .inl sg)), ((a 3), .inl (k 3, 10, .inl od)), ((a 4), .inl (k 4, 100, .inl sd)), ((a 5), .inl (k 5, 10, .inl go)), ((a 6), .inl (k 6, 330, .inl ta)), ((a 7), .inr (1, [.ref (a 8), .ref (a 9)])), ((a 8), .inl (k 8, 40, .inl oe)), ((a 9), .inl (k 9, 100, .inl fp)), ((a 10), .inr (2, [.ref qr, .ref qs])), (qr, .inl (k 11, 133, .inr (.inl ro))), (qs, .inl (k 11, 133, .inr (.inl sp)))]) (w1 := (wN a k )) (w2 := (wB a k lab sg cc ci od sd go ta we oe fp ro sp qr qs)) (tc := []) hx hb hml hown ht (c_B_renamed l D a k H.size (lab x3.toNatClampNeg) x1 x2 v_3 e_3) g_B_120 ⟨rfl, rfl⟩ (n := 3) (by decide +kernel) ⟨(Nat.le_of_ble_eq_true rfl), (Nat.le_of_ble_eq_true rfl)⟩ hP hD hK hS hA ⟨Nat.zero_le _, Nat.zero_le _⟩ [] [0, 1, 2, 3, 4, 5, 6, 7, 8, 9, 10, 11, 12] [] [0, 1, 2, 3, 4, 5, 6, 7, 8, 9, 10, 11, 12] rfl rfl rfl rfl (by decide) (by decide) (by decide) rfl (by decide) rfl rfl hl.1 (Nat.le_of_ble_eq_true rfl) d_B_unite_25 (fun H locs hP hD hS => ?_)
    obtain ⟨g_4, h⟩ := gd_some h
    refine va_iast hx hb hK hP hD hS 1 0 rfl rfl (inb_in g_4) d_B_unite_28 (fun H locs hP hD hS => ?_)
    have hP : va_P D classes (wB a k (upd lab x3.toNatClampNeg v_3) sg cc ci od sd go ta we oe fp ro sp qr qs) H := hP
    have hD : va_D A (wB a k (upd lab x3.toNatClampNeg v_3) sg cc ci od sd go ta we oe fp ro sp qr qs) := hD
    refine lv_iinc (v := x3 + 1) (lv' := [(3, .int (x3 + 1)), (0, .ref (a 0)), (1, .int x1), (2, .int x2)]) hx hb d_B_unite_29 hl (k := 3) rfl rfl (by decide) rfl (fun ls hl => ?_)
    refine lv_goto (tgt := 2) hx hb d_B_unite_32 (by decide) ?_
    exact hrec2 _ _ _ _ _ _ h _ _ _ hP hD hS (lv_sub hl [1, 2, 3, 0] rfl)
theorem k_B_unite_2_L {p : Program} {l : Launch} {e : Env} {s : State} {m : MethodId} {args : Array Value} {below : List Frame} {meth : Method} {c : Code} {D : va_G} {A : Nat → Prop} {a : Nat → Nat} {k : Nat → ClassId} {sg : Nat → Int32} {ci : Int32} {od : Nat → Int32} {sd : Nat → Int32} {go : Nat → Int32} {ta : Nat → Int32} {we : Int32} {oe : Nat → Int32} {fp : Nat → Int32} {ro : Nat → Int64} {sp : Nat → Int64} {qr : Nat} {qs : Nat} (C : cx D [(k 1, .int), (k 2, .int), (k 3, .int), (k 4, .int), (k 5, .boolean), (k 6, .int), (k 8, .int), (k 9, .int), (k 11, .long)] R_B b_B_unite 4 none A p s m args meth c) : ∀ n : Nat, H_B_unite_2 p l e s m args below meth c D A a k sg ci od sd go ta we oe fp ro sp qr qs (L_B_unite_2 n)
  | 0 => fun _ _ _ _ _ _ h => nomatch h
  | n + 1 => k_B_unite_2 C (k_B_unite_2_L C n)
set_option maxHeartbeats 4000000 in
set_option maxRecDepth 100000 in
theorem k_B_unite_0 {p : Program} {l : Launch} {e : Env} {s : State} {m : MethodId} {args : Array Value} {below : List Frame} {meth : Method} {c : Code} {D : va_G} {A : Nat → Prop} {a : Nat → Nat} {k : Nat → ClassId} {sg : Nat → Int32} {ci : Int32} {od : Nat → Int32} {sd : Nat → Int32} {go : Nat → Int32} {ta : Nat → Int32} {we : Int32} {oe : Nat → Int32} {fp : Nat → Int32} {ro : Nat → Int64} {sp : Nat → Int64} {qr : Nat} {qs : Nat} (C : cx D [(k 1, .int), (k 2, .int), (k 3, .int), (k 4, .int), (k 5, .boolean), (k 6, .int), (k 8, .int), (k 9, .int), (k 11, .long)] R_B b_B_unite 4 none A p s m args meth c) : H_B_unite_0 p l e s m args below meth c D A a k sg ci od sd go ta we oe fp ro sp qr qs (J_B_unite_0) := by
  obtain ⟨hx, hb, hr, hml, hown, ht, hlk, hA, hK⟩ := id C
  intro x1 x2 lab cc r h H locs ls hP hD hS hl
  unfold J_B_unite_0 at h
  refine lv_iconst (v := 0) hx hb d_B_unite_0 (by decide) ?_
  refine lv_istore_n (lv' := [(3, .int (0 : Int32)), (0, .ref (a 0)), (1, .int x1), (2, .int x2)]) hx hb d_B_unite_1 rfl hl (by decide) rfl (fun ls hl => ?_)
  exact (k_B_unite_2_L C fu) _ _ _ _ _ _ h _ _ _ hP hD hS (lv_sub hl [1, 2, 3, 0] rfl)
set_option maxRecDepth 20000 in
theorem c_B_unite (l : Launch) (D : va_G) (a : Nat → Nat) (k : Nat → ClassId) (sz : Nat) (x1 : Int32) (x2 : Int32) (lab : Nat → Int32) (sg : Nat → Int32) (cc : Int32) (ci : Int32) (od : Nat → Int32) (sd : Nat → Int32) (go : Nat → Int32) (ta : Nat → Int32) (we : Int32) (oe : Nat → Int32) (fp : Nat → Int32) (ro : Nat → Int64) (sp : Nat → Int64) (qr : Nat) (qs : Nat) (r : (Nat → Int32)) (h : F_B_unite x1 x2 lab cc = some r) : Met l y_B_unite (Cond.code y_B_unite b_B_unite 4 none :: lw_g) (rm_B_unite) (va_Pc [.ref (a 0), .int x1, .int x2] (pcW D [(k 1, .int), (k 2, .int), (k 3, .int), (k 4, .int), (k 5, .boolean), (k 6, .int), (k 8, .int), (k 9, .int), (k 11, .long)] (wB a k lab sg cc ci od sd go ta we oe fp ro sp qr qs) sz)) (qc_B_unite D (va_A (wB a k lab sg cc ci od sd go ta we oe fp ro sp qr qs) sz) a k sg cc ci od sd go ta we oe fp ro sp qr qs r) 0 0 (va_A (wB a k lab sg cc ci od sd go ta we oe fp ro sp qr qs) sz) := by
  refine Met.ofW (cc := b_B_unite) (maxL := 4) (ret := none) (by decide) rfl ?_
  intro p e s m args below meth c s₁ B hml hv
  obtain ⟨rfl, hsz, hP, hK, hD0⟩ := hv
  have hts := atoms_spec (ws := Cond.code y_B_unite b_B_unite 4 none :: lw_g) B.pre
  subst hsz
  have hD := hD0.self (sz := s.heap.size)
  have hl := lv_entry ([.ref (a 0), .int x1, .int x2]) (n := 4) (Nat.le_of_ble_eq_true rfl)
  rw [lg_entry_eq]
  generalize (lg_sl ([.ref (a 0), .int x1, .int x2]) ++ List.replicate (4 - (lg_sl ([.ref (a 0), .int x1, .int x2])).length) Slot.unset).toArray = ls at hl ⊢
  exact k_B_unite_0 ⟨B.exec, B.bytes, B.returns, hml, findClass_of_methodNamed B.named, fun w hw => hts w (List.mem_cons_of_mem _ hw), B.notSynchronized, fun q h => Or.inr h, hK⟩ _ _ _ _ _ h _ _ _ hP hD va_S.rf hl

def rm_B_swapWithNext : Room := { frames := 0, cells := 0, slots := 0, locals := 0 }
def qc_B_swapWithNext (D : va_G) (A : Nat → Prop) (a : Nat → Nat) (k : Nat → ClassId) (cc : Int32) (ci : Int32) (od : Nat → Int32) (sd : Nat → Int32) (go : Nat → Int32) (ta : Nat → Int32) (we : Int32) (oe : Nat → Int32) (fp : Nat → Int32) (ro : Nat → Int64) (sp : Nat → Int64) (qr : Nat) (qs : Nat) (r : (Nat → Int32) × (Nat → Int32)) : Array Value → State → Outcome → State → Prop := va_Qv (fun (_ : Unit) => True) (poW D [(k 1, .int), (k 2, .int), (k 3, .int), (k 4, .int), (k 5, .boolean), (k 6, .int), (k 8, .int), (k 9, .int), (k 11, .long)] (wB a k r.1 r.2 cc ci od sd go ta we oe fp ro sp qr qs) A) A
def J_B_swapWithNext_34 (rec34 : Int32 → Int32 → (Nat → Int32) → (Nat → Int32) → Option ((Nat → Int32) × (Nat → Int32))) (x1 : Int32) (x3 : Int32) (lab : Nat → Int32) (sg : Nat → Int32) : Option ((Nat → Int32) × (Nat → Int32)) :=
  (if ((4 : Int32) * (x1 + (1 : Int32))) ≤ x3 then some (lab, sg) else (if inb x3 40 then (if inb (x3 + (4 : Int32)) 40 then (if inb x3 40 then (if inb (x3 + (4 : Int32)) 40 then rec34 x1 (x3 + 1) (upd (upd lab x3.toNatClampNeg (lab (x3 + (4 : Int32)).toNatClampNeg)) (x3 + (4 : Int32)).toNatClampNeg (lab x3.toNatClampNeg)) sg else none) else none) else none) else none))
def L_B_swapWithNext_34 : Nat → Int32 → Int32 → (Nat → Int32) → (Nat → Int32) → Option ((Nat → Int32) × (Nat → Int32))
  | 0 => fun _ _ _ _ => none
  | n + 1 => J_B_swapWithNext_34 (L_B_swapWithNext_34 n)
def J_B_swapWithNext_0 (x1 : Int32) (lab : Nat → Int32) (sg : Nat → Int32) : Option ((Nat → Int32) × (Nat → Int32)) :=
  (if inb x1 10 then (if inb (x1 + (1 : Int32)) 10 then (if inb x1 10 then (if inb (x1 + (1 : Int32)) 10 then L_B_swapWithNext_34 fu x1 ((4 : Int32) * x1) lab (upd (upd sg x1.toNatClampNeg (sg (x1 + (1 : Int32)).toNatClampNeg)) (x1 + (1 : Int32)).toNatClampNeg (sg x1.toNatClampNeg)) else none) else none) else none) else none)
def F_B_swapWithNext (x1 : Int32) (lab : Nat → Int32) (sg : Nat → Int32) : Option ((Nat → Int32) × (Nat → Int32)) := J_B_swapWithNext_0 x1 lab sg
def H_B_swapWithNext_34 (p : Program) (l : Launch) (e : Env) (s : State) (m : MethodId) (args : Array Value) (below : List Frame) (meth : Method) (c : Code) (D : va_G) (A : Nat → Prop) (a : Nat → Nat) (k : Nat → ClassId) (cc : Int32) (ci : Int32) (od : Nat → Int32) (sd : Nat → Int32) (go : Nat → Int32) (ta : Nat → Int32) (we : Int32) (oe : Nat → Int32) (fp : Nat → Int32) (ro : Nat → Int64) (sp : Nat → Int64) (qr : Nat) (qs : Nat) (f : Int32 → Int32 → (Nat → Int32) → (Nat → Int32) → Option ((Nat → Int32) × (Nat → Int32))) : Prop := ∀ (x1 : Int32) (x3 : Int32) (lab : Nat → Int32) (sg : Nat → Int32) (r : (Nat → Int32) × (Nat → Int32)), f x1 x3 lab sg = some r → ∀ (H : Heap) (locs : List Loc) (ls : Array Slot), va_P D classes (wB a k lab sg cc ci od sd go ta we oe fp ro sp qr qs) H → va_D A (wB a k lab sg cc ci od sd go ta we oe fp ro sp qr qs) → va_S A s.heap H locs → lv_has ls 5 [(0, .ref (a 0)), (1, .int x1), (3, .int x3)] → W p l e (rm_B_swapWithNext) s m args below meth c H locs 0 0 (MQ below (qc_B_swapWithNext D A a k cc ci od sd go ta we oe fp ro sp qr qs r) args s 0 0 A) (F0 m 34 ls [])
def H_B_swapWithNext_0 (p : Program) (l : Launch) (e : Env) (s : State) (m : MethodId) (args : Array Value) (below : List Frame) (meth : Method) (c : Code) (D : va_G) (A : Nat → Prop) (a : Nat → Nat) (k : Nat → ClassId) (cc : Int32) (ci : Int32) (od : Nat → Int32) (sd : Nat → Int32) (go : Nat → Int32) (ta : Nat → Int32) (we : Int32) (oe : Nat → Int32) (fp : Nat → Int32) (ro : Nat → Int64) (sp : Nat → Int64) (qr : Nat) (qs : Nat) (f : Int32 → (Nat → Int32) → (Nat → Int32) → Option ((Nat → Int32) × (Nat → Int32))) : Prop := ∀ (x1 : Int32) (lab : Nat → Int32) (sg : Nat → Int32) (r : (Nat → Int32) × (Nat → Int32)), f x1 lab sg = some r → ∀ (H : Heap) (locs : List Loc) (ls : Array Slot), va_P D classes (wB a k lab sg cc ci od sd go ta we oe fp ro sp qr qs) H → va_D A (wB a k lab sg cc ci od sd go ta we oe fp ro sp qr qs) → va_S A s.heap H locs → lv_has ls 5 [(0, .ref (a 0)), (1, .int x1)] → W p l e (rm_B_swapWithNext) s m args below meth c H locs 0 0 (MQ below (qc_B_swapWithNext D A a k cc ci od sd go ta we oe fp ro sp qr qs r) args s 0 0 A) (F0 m 0 ls [])
set_option maxHeartbeats 4000000 in
set_option maxRecDepth 100000 in
theorem k_B_swapWithNext_34 {p : Program} {l : Launch} {e : Env} {s : State} {m : MethodId} {args : Array Value} {below : List Frame} {meth : Method} {c : Code} {D : va_G} {A : Nat → Prop} {a : Nat → Nat} {k : Nat → ClassId} {cc : Int32} {ci : Int32} {od : Nat → Int32} {sd : Nat → Int32} {go : Nat → Int32} {ta : Nat → Int32} {we : Int32} {oe : Nat → Int32} {fp : Nat → Int32} {ro : Nat → Int64} {sp : Nat → Int64} {qr : Nat} {qs : Nat} {rec34 : Int32 → Int32 → (Nat → Int32) → (Nat → Int32) → Option ((Nat → Int32) × (Nat → Int32))} (C : cx D [(k 1, .int), (k 2, .int), (k 3, .int), (k 4, .int), (k 5, .boolean), (k 6, .int), (k 8, .int), (k 9, .int), (k 11, .long)] R_B b_B_swapWithNext 5 none A p s m args meth c) (hrec34 : H_B_swapWithNext_34 p l e s m args below meth c D A a k cc ci od sd go ta we oe fp ro sp qr qs rec34) : H_B_swapWithNext_34 p l e s m args below meth c D A a k cc ci od sd go ta we oe fp ro sp qr qs (J_B_swapWithNext_34 rec34) := by
  obtain ⟨hx, hb, hr, hml, hown, ht, hlk, hA, hK⟩ := id C
  intro x1 x3 lab sg r h H locs ls hP hD hS hl
  unfold J_B_swapWithNext_34 at h
  refine lv_iload_n hx hb d_B_swapWithNext_34 rfl (lv_at hl 2 rfl) ?_
  refine lv_iconst (v := 4) hx hb d_B_swapWithNext_35 (by decide) ?_
  refine lv_iload_n hx hb d_B_swapWithNext_36 rfl (lv_at hl 1 rfl) ?_
  refine lv_iconst (v := 1) hx hb d_B_swapWithNext_37 (by decide) ?_
  refine lv_iadd hx hb d_B_swapWithNext_38 ?_
  refine lv_imul hx hb d_B_swapWithNext_39 ?_
  refine lv_icmp_ge (tgt := 81) hx hb d_B_swapWithNext_40 (by decide) (fun c_1 => ?_) (fun c_1 => ?_)
  · have h := ite_T c_1 h
    cases h
    exact W.vret hx hb hr (fun t ht hW => ⟨⟨(), rfl, trivial, by rw [ht]; exact hP, va_K.moved hW.alike hK, hD⟩, hS.F ht⟩) hS.2.2 d_B_swapWithNext_81 hlk
  · have h := ite_F c_1 h
    refine lv_aload_n hx hb d_B_swapWithNext_43 rfl (lv_at hl 0 rfl) ?_
    refine va_get (D := D) (ci := 0) (v := .ref (a 1)) (C := R_B) (T := F_B) (N := 11) hx hb ht iC_B hown hK hP 0 rfl rfl 0 (by decide) (ht _ ix_43) (fun _ h9 => h9) rfl d_B_swapWithNext_44 ?_
    refine lv_iload_n hx hb d_B_swapWithNext_47 rfl (lv_at hl 2 rfl) ?_
    obtain ⟨g_2, h⟩ := gd_some h
    refine va_iald hx hb hK hP 1 0 rfl rfl (inb_in g_2) d_B_swapWithNext_48 ?_
    refine lv_istore (lv' := [(4, .int (lab x3.toNatClampNeg)), (0, .ref (a 0)), (1, .int x1), (3, .int x3)]) hx hb d_B_swapWithNext_49 hl (by decide) rfl (fun ls hl => ?_)
    refine lv_aload_n hx hb d_B_swapWithNext_51 rfl (lv_at hl 1 rfl) ?_
    refine va_get (D := D) (ci := 0) (v := .ref (a 1)) (C := R_B) (T := F_B) (N := 11) hx hb ht iC_B hown hK hP 0 rfl rfl 0 (by decide) (ht _ ix_43) (fun _ h9 => h9) rfl d_B_swapWithNext_52 ?_
    refine lv_iload_n hx hb d_B_swapWithNext_55 rfl (lv_at hl 3 rfl) ?_
    refine lv_aload_n hx hb d_B_swapWithNext_56 rfl (lv_at hl 1 rfl) ?_
    refine va_get (D := D) (ci := 0) (v := .ref (a 1)) (C := R_B) (T := F_B) (N := 11) hx hb ht iC_B hown hK hP 0 rfl rfl 0 (by decide) (ht _ ix_43) (fun _ h9 => h9) rfl d_B_swapWithNext_57 ?_
    refine lv_iload_n hx hb d_B_swapWithNext_60 rfl (lv_at hl 3 rfl) ?_
    refine lv_iconst (v := 4) hx hb d_B_swapWithNext_61 (by decide) ?_
    refine lv_iadd hx hb d_B_swapWithNext_62 ?_
    obtain ⟨g_3, h⟩ := gd_some h
    refine va_iald hx hb hK hP 1 0 rfl rfl (inb_in g_3) d_B_swapWithNext_63 ?_
    obtain ⟨g_4, h⟩ := gd_some h
    refine va_iast hx hb hK hP hD hS 1 0 rfl rfl (inb_in g_4) d_B_swapWithNext_64 (fun H locs hP hD hS => ?_)
    have hP : va_P D classes (wB a k (upd lab x3.toNatClampNeg (lab (x3 + (4 : Int32)).toNatClampNeg)) sg cc ci od sd go ta we oe fp ro sp qr qs) H := hP
    have hD : va_D A (wB a k (upd lab x3.toNatClampNeg (lab (x3 + (4 : Int32)).toNatClampNeg)) sg cc ci od sd go ta we oe fp ro sp qr qs) := hD
    refine lv_aload_n hx hb d_B_swapWithNext_65 rfl (lv_at hl 1 rfl) ?_
    refine va_get (D := D) (ci := 0) (v := .ref (a 1)) (C := R_B) (T := F_B) (N := 11) hx hb ht iC_B hown hK hP 0 rfl rfl 0 (by decide) (ht _ ix_43) (fun _ h9 => h9) rfl d_B_swapWithNext_66 ?_
    refine lv_iload_n hx hb d_B_swapWithNext_69 rfl (lv_at hl 3 rfl) ?_
    refine lv_iconst (v := 4) hx hb d_B_swapWithNext_70 (by decide) ?_
    refine lv_iadd hx hb d_B_swapWithNext_71 ?_
    refine lv_iload hx hb d_B_swapWithNext_72 (lv_at hl 0 rfl) ?_
    obtain ⟨g_5, h⟩ := gd_some h
    refine va_iast hx hb hK hP hD hS 1 0 rfl rfl (inb_in g_5) d_B_swapWithNext_74 (fun H locs hP hD hS => ?_)
    have hP : va_P D classes (wB a k (upd (upd lab x3.toNatClampNeg (lab (x3 + (4 : Int32)).toNatClampNeg)) (x3 + (4 : Int32)).toNatClampNeg (lab x3.toNatClampNeg)) sg cc ci od sd go ta we oe fp ro sp qr qs) H := hP
    have hD : va_D A (wB a k (upd (upd lab x3.toNatClampNeg (lab (x3 + (4 : Int32)).toNatClampNeg)) (x3 + (4 : Int32)).toNatClampNeg (lab x3.toNatClampNeg)) sg cc ci od sd go ta we oe fp ro sp qr qs) := hD
    refine lv_iinc (v := x3 + 1) (lv' := [(3, .int (x3 + 1)), (4, .int (lab x3.toNatClampNeg)), (0, .ref (a 0)), (1, .int x1)]) hx hb d_B_swapWithNext_75 hl (k := 3) rfl rfl (by decide) rfl (fun ls hl => ?_)
    refine lv_goto (tgt := 34) hx hb d_B_swapWithNext_78 (by decide) ?_
    exact hrec34 _ _ _ _ _ h _ _ _ hP hD hS (lv_sub hl [2, 3, 0] rfl)
theorem k_B_swapWithNext_34_L {p : Program} {l : Launch} {e : Env} {s : State} {m : MethodId} {args : Array Value} {below : List Frame} {meth : Method} {c : Code} {D : va_G} {A : Nat → Prop} {a : Nat → Nat} {k : Nat → ClassId} {cc : Int32} {ci : Int32} {od : Nat → Int32} {sd : Nat → Int32} {go : Nat → Int32} {ta : Nat → Int32} {we : Int32} {oe : Nat → Int32} {fp : Nat → Int32} {ro : Nat → Int64} {sp : Nat → Int64} {qr : Nat} {qs : Nat} (C : cx D [(k 1, .int), (k 2, .int), (k 3, .int), (k 4, .int), (k 5, .boolean), (k 6, .int), (k 8, .int), (k 9, .int), (k 11, .long)] R_B b_B_swapWithNext 5 none A p s m args meth c) : ∀ n : Nat, H_B_swapWithNext_34 p l e s m args below meth c D A a k cc ci od sd go ta we oe fp ro sp qr qs (L_B_swapWithNext_34 n)
  | 0 => fun _ _ _ _ _ h => nomatch h
  | n + 1 => k_B_swapWithNext_34 C (k_B_swapWithNext_34_L C n)
set_option maxHeartbeats 4000000 in
set_option maxRecDepth 100000 in
theorem k_B_swapWithNext_0 {p : Program} {l : Launch} {e : Env} {s : State} {m : MethodId} {args : Array Value} {below : List Frame} {meth : Method} {c : Code} {D : va_G} {A : Nat → Prop} {a : Nat → Nat} {k : Nat → ClassId} {cc : Int32} {ci : Int32} {od : Nat → Int32} {sd : Nat → Int32} {go : Nat → Int32} {ta : Nat → Int32} {we : Int32} {oe : Nat → Int32} {fp : Nat → Int32} {ro : Nat → Int64} {sp : Nat → Int64} {qr : Nat} {qs : Nat} (C : cx D [(k 1, .int), (k 2, .int), (k 3, .int), (k 4, .int), (k 5, .boolean), (k 6, .int), (k 8, .int), (k 9, .int), (k 11, .long)] R_B b_B_swapWithNext 5 none A p s m args meth c) : H_B_swapWithNext_0 p l e s m args below meth c D A a k cc ci od sd go ta we oe fp ro sp qr qs (J_B_swapWithNext_0) := by
  obtain ⟨hx, hb, hr, hml, hown, ht, hlk, hA, hK⟩ := id C
  intro x1 lab sg r h H locs ls hP hD hS hl
  unfold J_B_swapWithNext_0 at h
  refine lv_aload_n hx hb d_B_swapWithNext_0 rfl (lv_at hl 0 rfl) ?_
  refine va_get (D := D) (ci := 0) (v := .ref (a 2)) (C := R_B) (T := F_B) (N := 11) hx hb ht iC_B hown hK hP 0 rfl rfl 1 (by decide) (ht _ ix_53) (fun _ h9 => h9) rfl d_B_swapWithNext_1 ?_
  refine lv_iload_n hx hb d_B_swapWithNext_4 rfl (lv_at hl 1 rfl) ?_
  obtain ⟨g_1, h⟩ := gd_some h
  refine va_iald hx hb hK hP 2 1 rfl rfl (inb_in g_1) d_B_swapWithNext_5 ?_
  refine lv_istore_n (lv' := [(2, .int (sg x1.toNatClampNeg)), (0, .ref (a 0)), (1, .int x1)]) hx hb d_B_swapWithNext_6 rfl hl (by decide) rfl (fun ls hl => ?_)
  refine lv_aload_n hx hb d_B_swapWithNext_7 rfl (lv_at hl 1 rfl) ?_
  refine va_get (D := D) (ci := 0) (v := .ref (a 2)) (C := R_B) (T := F_B) (N := 11) hx hb ht iC_B hown hK hP 0 rfl rfl 1 (by decide) (ht _ ix_53) (fun _ h9 => h9) rfl d_B_swapWithNext_8 ?_
  refine lv_iload_n hx hb d_B_swapWithNext_11 rfl (lv_at hl 2 rfl) ?_
  refine lv_aload_n hx hb d_B_swapWithNext_12 rfl (lv_at hl 1 rfl) ?_
  refine va_get (D := D) (ci := 0) (v := .ref (a 2)) (C := R_B) (T := F_B) (N := 11) hx hb ht iC_B hown hK hP 0 rfl rfl 1 (by decide) (ht _ ix_53) (fun _ h9 => h9) rfl d_B_swapWithNext_13 ?_
  refine lv_iload_n hx hb d_B_swapWithNext_16 rfl (lv_at hl 2 rfl) ?_
  refine lv_iconst (v := 1) hx hb d_B_swapWithNext_17 (by decide) ?_
  refine lv_iadd hx hb d_B_swapWithNext_18 ?_
  obtain ⟨g_2, h⟩ := gd_some h
  refine va_iald hx hb hK hP 2 1 rfl rfl (inb_in g_2) d_B_swapWithNext_19 ?_
  obtain ⟨g_3, h⟩ := gd_some h
  refine va_iast hx hb hK hP hD hS 2 1 rfl rfl (inb_in g_3) d_B_swapWithNext_20 (fun H locs hP hD hS => ?_)
  have hP : va_P D classes (wB a k lab (upd sg x1.toNatClampNeg (sg (x1 + (1 : Int32)).toNatClampNeg)) cc ci od sd go ta we oe fp ro sp qr qs) H := hP
  have hD : va_D A (wB a k lab (upd sg x1.toNatClampNeg (sg (x1 + (1 : Int32)).toNatClampNeg)) cc ci od sd go ta we oe fp ro sp qr qs) := hD
  refine lv_aload_n hx hb d_B_swapWithNext_21 rfl (lv_at hl 1 rfl) ?_
  refine va_get (D := D) (ci := 0) (v := .ref (a 2)) (C := R_B) (T := F_B) (N := 11) hx hb ht iC_B hown hK hP 0 rfl rfl 1 (by decide) (ht _ ix_53) (fun _ h9 => h9) rfl d_B_swapWithNext_22 ?_
  refine lv_iload_n hx hb d_B_swapWithNext_25 rfl (lv_at hl 2 rfl) ?_
  refine lv_iconst (v := 1) hx hb d_B_swapWithNext_26 (by decide) ?_
  refine lv_iadd hx hb d_B_swapWithNext_27 ?_
  refine lv_iload_n hx hb d_B_swapWithNext_28 rfl (lv_at hl 0 rfl) ?_
  obtain ⟨g_4, h⟩ := gd_some h
  refine va_iast hx hb hK hP hD hS 2 1 rfl rfl (inb_in g_4) d_B_swapWithNext_29 (fun H locs hP hD hS => ?_)
  have hP : va_P D classes (wB a k lab (upd (upd sg x1.toNatClampNeg (sg (x1 + (1 : Int32)).toNatClampNeg)) (x1 + (1 : Int32)).toNatClampNeg (sg x1.toNatClampNeg)) cc ci od sd go ta we oe fp ro sp qr qs) H := hP
  have hD : va_D A (wB a k lab (upd (upd sg x1.toNatClampNeg (sg (x1 + (1 : Int32)).toNatClampNeg)) (x1 + (1 : Int32)).toNatClampNeg (sg x1.toNatClampNeg)) cc ci od sd go ta we oe fp ro sp qr qs) := hD
  refine lv_iconst (v := 4) hx hb d_B_swapWithNext_30 (by decide) ?_
  refine lv_iload_n hx hb d_B_swapWithNext_31 rfl (lv_at hl 2 rfl) ?_
  refine lv_imul hx hb d_B_swapWithNext_32 ?_
  refine lv_istore_n (lv' := [(3, .int ((4 : Int32) * x1)), (2, .int (sg x1.toNatClampNeg)), (0, .ref (a 0)), (1, .int x1)]) hx hb d_B_swapWithNext_33 rfl hl (by decide) rfl (fun ls hl => ?_)
  exact (k_B_swapWithNext_34_L C fu) _ _ _ _ _ h _ _ _ hP hD hS (lv_sub hl [2, 3, 0] rfl)
set_option maxRecDepth 20000 in
theorem c_B_swapWithNext (l : Launch) (D : va_G) (a : Nat → Nat) (k : Nat → ClassId) (sz : Nat) (x1 : Int32) (lab : Nat → Int32) (sg : Nat → Int32) (cc : Int32) (ci : Int32) (od : Nat → Int32) (sd : Nat → Int32) (go : Nat → Int32) (ta : Nat → Int32) (we : Int32) (oe : Nat → Int32) (fp : Nat → Int32) (ro : Nat → Int64) (sp : Nat → Int64) (qr : Nat) (qs : Nat) (r : (Nat → Int32) × (Nat → Int32)) (h : F_B_swapWithNext x1 lab sg = some r) : Met l y_B_swapWithNext (Cond.code y_B_swapWithNext b_B_swapWithNext 5 none :: lw_g) (rm_B_swapWithNext) (va_Pc [.ref (a 0), .int x1] (pcW D [(k 1, .int), (k 2, .int), (k 3, .int), (k 4, .int), (k 5, .boolean), (k 6, .int), (k 8, .int), (k 9, .int), (k 11, .long)] (wB a k lab sg cc ci od sd go ta we oe fp ro sp qr qs) sz)) (qc_B_swapWithNext D (va_A (wB a k lab sg cc ci od sd go ta we oe fp ro sp qr qs) sz) a k cc ci od sd go ta we oe fp ro sp qr qs r) 0 0 (va_A (wB a k lab sg cc ci od sd go ta we oe fp ro sp qr qs) sz) := by
  refine Met.ofW (cc := b_B_swapWithNext) (maxL := 5) (ret := none) (by decide) rfl ?_
  intro p e s m args below meth c s₁ B hml hv
  obtain ⟨rfl, hsz, hP, hK, hD0⟩ := hv
  have hts := atoms_spec (ws := Cond.code y_B_swapWithNext b_B_swapWithNext 5 none :: lw_g) B.pre
  subst hsz
  have hD := hD0.self (sz := s.heap.size)
  have hl := lv_entry ([.ref (a 0), .int x1]) (n := 5) (Nat.le_of_ble_eq_true rfl)
  rw [lg_entry_eq]
  generalize (lg_sl ([.ref (a 0), .int x1]) ++ List.replicate (5 - (lg_sl ([.ref (a 0), .int x1])).length) Slot.unset).toArray = ls at hl ⊢
  exact k_B_swapWithNext_0 ⟨B.exec, B.bytes, B.returns, hml, findClass_of_methodNamed B.named, fun w hw => hts w (List.mem_cons_of_mem _ hw), B.notSynchronized, fun q h => Or.inr h, hK⟩ _ _ _ _ h _ _ _ hP hD va_S.rf hl

def rm_B_carry : Room := { frames := 1, cells := 0, slots := 0, locals := 24 }
def qc_B_carry (D : va_G) (A : Nat → Prop) (a : Nat → Nat) (k : Nat → ClassId) (cc : Int32) (ci : Int32) (od : Nat → Int32) (sd : Nat → Int32) (go : Nat → Int32) (ta : Nat → Int32) (we : Int32) (oe : Nat → Int32) (fp : Nat → Int32) (ro : Nat → Int64) (sp : Nat → Int64) (qr : Nat) (qs : Nat) (r : (Nat → Int32) × (Nat → Int32)) : Array Value → State → Outcome → State → Prop := va_Qv (fun (_ : Unit) => True) (poW D [(k 1, .int), (k 2, .int), (k 3, .int), (k 4, .int), (k 5, .boolean), (k 6, .int), (k 8, .int), (k 9, .int), (k 11, .long)] (wB a k r.1 r.2 cc ci od sd go ta we oe fp ro sp qr qs) A) A
def J_B_carry_20 (rec20 : Int32 → Int32 → (Nat → Int32) → (Nat → Int32) → Option ((Nat → Int32) × (Nat → Int32))) (x2 : Int32) (x3 : Int32) (lab : Nat → Int32) (sg : Nat → Int32) : Option ((Nat → Int32) × (Nat → Int32)) :=
  (if x3 ≤ x2 then some (lab, sg) else (Option.bind (F_B_swapWithNext (x3 - (1 : Int32)) lab sg) (fun v_2 => rec20 x2 (x3 + (-1)) v_2.1 v_2.2)))
def L_B_carry_20 : Nat → Int32 → Int32 → (Nat → Int32) → (Nat → Int32) → Option ((Nat → Int32) × (Nat → Int32))
  | 0 => fun _ _ _ _ => none
  | n + 1 => J_B_carry_20 (L_B_carry_20 n)
def J_B_carry_2 (rec2 : Int32 → Int32 → Int32 → (Nat → Int32) → (Nat → Int32) → Option ((Nat → Int32) × (Nat → Int32))) (x1 : Int32) (x2 : Int32) (x3 : Int32) (lab : Nat → Int32) (sg : Nat → Int32) : Option ((Nat → Int32) × (Nat → Int32)) :=
  (if x2 ≤ x3 then L_B_carry_20 fu x2 x1 lab sg else (Option.bind (F_B_swapWithNext x3 lab sg) (fun v_2 => rec2 x1 x2 (x3 + 1) v_2.1 v_2.2)))
def L_B_carry_2 : Nat → Int32 → Int32 → Int32 → (Nat → Int32) → (Nat → Int32) → Option ((Nat → Int32) × (Nat → Int32))
  | 0 => fun _ _ _ _ _ => none
  | n + 1 => J_B_carry_2 (L_B_carry_2 n)
def J_B_carry_0 (x1 : Int32) (x2 : Int32) (lab : Nat → Int32) (sg : Nat → Int32) : Option ((Nat → Int32) × (Nat → Int32)) :=
  L_B_carry_2 fu x1 x2 x1 lab sg
def F_B_carry (x1 : Int32) (x2 : Int32) (lab : Nat → Int32) (sg : Nat → Int32) : Option ((Nat → Int32) × (Nat → Int32)) := J_B_carry_0 x1 x2 lab sg
def H_B_carry_20 (p : Program) (l : Launch) (e : Env) (s : State) (m : MethodId) (args : Array Value) (below : List Frame) (meth : Method) (c : Code) (D : va_G) (A : Nat → Prop) (a : Nat → Nat) (k : Nat → ClassId) (cc : Int32) (ci : Int32) (od : Nat → Int32) (sd : Nat → Int32) (go : Nat → Int32) (ta : Nat → Int32) (we : Int32) (oe : Nat → Int32) (fp : Nat → Int32) (ro : Nat → Int64) (sp : Nat → Int64) (qr : Nat) (qs : Nat) (f : Int32 → Int32 → (Nat → Int32) → (Nat → Int32) → Option ((Nat → Int32) × (Nat → Int32))) : Prop := ∀ (x2 : Int32) (x3 : Int32) (lab : Nat → Int32) (sg : Nat → Int32) (r : (Nat → Int32) × (Nat → Int32)), f x2 x3 lab sg = some r → ∀ (H : Heap) (locs : List Loc) (ls : Array Slot), va_P D classes (wB a k lab sg cc ci od sd go ta we oe fp ro sp qr qs) H → va_D A (wB a k lab sg cc ci od sd go ta we oe fp ro sp qr qs) → va_S A s.heap H locs → lv_has ls 4 [(0, .ref (a 0)), (2, .int x2), (3, .int x3)] → W p l e (rm_B_carry) s m args below meth c H locs 0 0 (MQ below (qc_B_carry D A a k cc ci od sd go ta we oe fp ro sp qr qs r) args s 0 0 A) (F0 m 20 ls [])
def H_B_carry_2 (p : Program) (l : Launch) (e : Env) (s : State) (m : MethodId) (args : Array Value) (below : List Frame) (meth : Method) (c : Code) (D : va_G) (A : Nat → Prop) (a : Nat → Nat) (k : Nat → ClassId) (cc : Int32) (ci : Int32) (od : Nat → Int32) (sd : Nat → Int32) (go : Nat → Int32) (ta : Nat → Int32) (we : Int32) (oe : Nat → Int32) (fp : Nat → Int32) (ro : Nat → Int64) (sp : Nat → Int64) (qr : Nat) (qs : Nat) (f : Int32 → Int32 → Int32 → (Nat → Int32) → (Nat → Int32) → Option ((Nat → Int32) × (Nat → Int32))) : Prop := ∀ (x1 : Int32) (x2 : Int32) (x3 : Int32) (lab : Nat → Int32) (sg : Nat → Int32) (r : (Nat → Int32) × (Nat → Int32)), f x1 x2 x3 lab sg = some r → ∀ (H : Heap) (locs : List Loc) (ls : Array Slot), va_P D classes (wB a k lab sg cc ci od sd go ta we oe fp ro sp qr qs) H → va_D A (wB a k lab sg cc ci od sd go ta we oe fp ro sp qr qs) → va_S A s.heap H locs → lv_has ls 4 [(0, .ref (a 0)), (1, .int x1), (2, .int x2), (3, .int x3)] → W p l e (rm_B_carry) s m args below meth c H locs 0 0 (MQ below (qc_B_carry D A a k cc ci od sd go ta we oe fp ro sp qr qs r) args s 0 0 A) (F0 m 2 ls [])
def H_B_carry_0 (p : Program) (l : Launch) (e : Env) (s : State) (m : MethodId) (args : Array Value) (below : List Frame) (meth : Method) (c : Code) (D : va_G) (A : Nat → Prop) (a : Nat → Nat) (k : Nat → ClassId) (cc : Int32) (ci : Int32) (od : Nat → Int32) (sd : Nat → Int32) (go : Nat → Int32) (ta : Nat → Int32) (we : Int32) (oe : Nat → Int32) (fp : Nat → Int32) (ro : Nat → Int64) (sp : Nat → Int64) (qr : Nat) (qs : Nat) (f : Int32 → Int32 → (Nat → Int32) → (Nat → Int32) → Option ((Nat → Int32) × (Nat → Int32))) : Prop := ∀ (x1 : Int32) (x2 : Int32) (lab : Nat → Int32) (sg : Nat → Int32) (r : (Nat → Int32) × (Nat → Int32)), f x1 x2 lab sg = some r → ∀ (H : Heap) (locs : List Loc) (ls : Array Slot), va_P D classes (wB a k lab sg cc ci od sd go ta we oe fp ro sp qr qs) H → va_D A (wB a k lab sg cc ci od sd go ta we oe fp ro sp qr qs) → va_S A s.heap H locs → lv_has ls 4 [(0, .ref (a 0)), (1, .int x1), (2, .int x2)] → W p l e (rm_B_carry) s m args below meth c H locs 0 0 (MQ below (qc_B_carry D A a k cc ci od sd go ta we oe fp ro sp qr qs r) args s 0 0 A) (F0 m 0 ls [])
set_option maxHeartbeats 4000000 in
set_option maxRecDepth 100000 in
theorem k_B_carry_20 {p : Program} {l : Launch} {e : Env} {s : State} {m : MethodId} {args : Array Value} {below : List Frame} {meth : Method} {c : Code} {D : va_G} {A : Nat → Prop} {a : Nat → Nat} {k : Nat → ClassId} {cc : Int32} {ci : Int32} {od : Nat → Int32} {sd : Nat → Int32} {go : Nat → Int32} {ta : Nat → Int32} {we : Int32} {oe : Nat → Int32} {fp : Nat → Int32} {ro : Nat → Int64} {sp : Nat → Int64} {qr : Nat} {qs : Nat} {rec20 : Int32 → Int32 → (Nat → Int32) → (Nat → Int32) → Option ((Nat → Int32) × (Nat → Int32))} (C : cx D [(k 1, .int), (k 2, .int), (k 3, .int), (k 4, .int), (k 5, .boolean), (k 6, .int), (k 8, .int), (k 9, .int), (k 11, .long)] R_B b_B_carry 4 none A p s m args meth c) (hrec20 : H_B_carry_20 p l e s m args below meth c D A a k cc ci od sd go ta we oe fp ro sp qr qs rec20) : H_B_carry_20 p l e s m args below meth c D A a k cc ci od sd go ta we oe fp ro sp qr qs (J_B_carry_20 rec20) := by
  obtain ⟨hx, hb, hr, hml, hown, ht, hlk, hA, hK⟩ := id C
  intro x2 x3 lab sg r h H locs ls hP hD hS hl
  unfold J_B_carry_20 at h
  refine lv_iload_n hx hb d_B_carry_20 rfl (lv_at hl 2 rfl) ?_
  refine lv_iload_n hx hb d_B_carry_21 rfl (lv_at hl 1 rfl) ?_
  refine lv_icmp_le (tgt := 38) hx hb d_B_carry_22 (by decide) (fun c_1 => ?_) (fun c_1 => ?_)
  · have h := ite_T c_1 h
    cases h
    exact W.vret hx hb hr (fun t ht hW => ⟨⟨(), rfl, trivial, by rw [ht]; exact hP, va_K.moved hW.alike hK, hD⟩, hS.F ht⟩) hS.2.2 d_B_carry_38 hlk
  · have h := ite_F c_1 h
    refine lv_aload_n hx hb d_B_carry_25 rfl (lv_at hl 0 rfl) ?_
    refine lv_iload_n hx hb d_B_carry_26 rfl (lv_at hl 2 rfl) ?_
    refine lv_iconst (v := 1) hx hb d_B_carry_27 (by decide) ?_
    refine lv_isub hx hb d_B_carry_28 ?_
    obtain ⟨v_2, e_2, h⟩ := bd_some h
    refine go_Vv (As := [.int (x3 - (1 : Int32))]) (rest := []) (wc := (wB a k lab sg cc ci od sd go ta we oe fp ro sp qr qs)) (wr := []) (w1 := (wB a k v_2.1 v_2.2 cc ci od sd go ta we oe fp ro sp qr qs)) (w2 := (wB a k v_2.1 v_2.2 cc ci od sd go ta we oe fp ro sp qr qs)) (tc := [(k 1, .int), (k 2, .int), (k 3, .int), (k 4, .int), (k 5, .boolean), (k 6, .int), (k 8, .int), (k 9, .int), (k 11, .long)]) hx hb hml hown ht (c_B_swapWithNext l D a k H.size (x3 - (1 : Int32)) lab sg cc ci od sd go ta we oe fp ro sp qr qs v_2 e_2) g_B_145 ⟨rfl, rfl⟩ (n := 1) (by decide +kernel) ⟨(Nat.le_of_ble_eq_true rfl), (Nat.le_of_ble_eq_true rfl)⟩ hP hD hK hS hA ⟨Nat.zero_le _, Nat.zero_le _⟩ [0, 1, 2, 3, 4, 5, 6, 7, 8, 9, 10, 11, 12] [] [0, 1, 2, 3, 4, 5, 6, 7, 8] [0, 1, 2, 3, 4, 5, 6, 7, 8, 9, 10, 11, 12] rfl rfl rfl rfl (by decide) (by decide) (by decide) rfl (by decide) 0 rfl rfl rfl rfl rfl hl.1 (Nat.le_of_ble_eq_true rfl) d_B_carry_29 (fun H locs hP hD hS => ?_)
    refine lv_iinc (v := x3 + (-1)) (lv' := [(3, .int (x3 + (-1))), (0, .ref (a 0)), (2, .int x2)]) hx hb d_B_carry_32 hl (k := 2) rfl rfl (by decide) rfl (fun ls hl => ?_)
    refine lv_goto (tgt := 20) hx hb d_B_carry_35 (by decide) ?_
    exact hrec20 _ _ _ _ _ h _ _ _ hP hD hS (lv_sub hl [1, 2, 0] rfl)
theorem k_B_carry_20_L {p : Program} {l : Launch} {e : Env} {s : State} {m : MethodId} {args : Array Value} {below : List Frame} {meth : Method} {c : Code} {D : va_G} {A : Nat → Prop} {a : Nat → Nat} {k : Nat → ClassId} {cc : Int32} {ci : Int32} {od : Nat → Int32} {sd : Nat → Int32} {go : Nat → Int32} {ta : Nat → Int32} {we : Int32} {oe : Nat → Int32} {fp : Nat → Int32} {ro : Nat → Int64} {sp : Nat → Int64} {qr : Nat} {qs : Nat} (C : cx D [(k 1, .int), (k 2, .int), (k 3, .int), (k 4, .int), (k 5, .boolean), (k 6, .int), (k 8, .int), (k 9, .int), (k 11, .long)] R_B b_B_carry 4 none A p s m args meth c) : ∀ n : Nat, H_B_carry_20 p l e s m args below meth c D A a k cc ci od sd go ta we oe fp ro sp qr qs (L_B_carry_20 n)
  | 0 => fun _ _ _ _ _ h => nomatch h
  | n + 1 => k_B_carry_20 C (k_B_carry_20_L C n)
set_option maxHeartbeats 4000000 in
set_option maxRecDepth 100000 in
theorem k_B_carry_2 {p : Program} {l : Launch} {e : Env} {s : State} {m : MethodId} {args : Array Value} {below : List Frame} {meth : Method} {c : Code} {D : va_G} {A : Nat → Prop} {a : Nat → Nat} {k : Nat → ClassId} {cc : Int32} {ci : Int32} {od : Nat → Int32} {sd : Nat → Int32} {go : Nat → Int32} {ta : Nat → Int32} {we : Int32} {oe : Nat → Int32} {fp : Nat → Int32} {ro : Nat → Int64} {sp : Nat → Int64} {qr : Nat} {qs : Nat} {rec2 : Int32 → Int32 → Int32 → (Nat → Int32) → (Nat → Int32) → Option ((Nat → Int32) × (Nat → Int32))} (C : cx D [(k 1, .int), (k 2, .int), (k 3, .int), (k 4, .int), (k 5, .boolean), (k 6, .int), (k 8, .int), (k 9, .int), (k 11, .long)] R_B b_B_carry 4 none A p s m args meth c) (hrec2 : H_B_carry_2 p l e s m args below meth c D A a k cc ci od sd go ta we oe fp ro sp qr qs rec2) : H_B_carry_2 p l e s m args below meth c D A a k cc ci od sd go ta we oe fp ro sp qr qs (J_B_carry_2 rec2) := by
  obtain ⟨hx, hb, hr, hml, hown, ht, hlk, hA, hK⟩ := id C
  intro x1 x2 x3 lab sg r h H locs ls hP hD hS hl
  unfold J_B_carry_2 at h
  refine lv_iload_n hx hb d_B_carry_2 rfl (lv_at hl 3 rfl) ?_
  refine lv_iload_n hx hb d_B_carry_3 rfl (lv_at hl 2 rfl) ?_
  refine lv_icmp_ge (tgt := 18) hx hb d_B_carry_4 (by decide) (fun c_1 => ?_) (fun c_1 => ?_)
  · have h := ite_T c_1 h
    refine lv_iload_n hx hb d_B_carry_18 rfl (lv_at hl 1 rfl) ?_
    refine lv_istore_n (lv' := [(3, .int x1), (0, .ref (a 0)), (1, .int x1), (2, .int x2)]) hx hb d_B_carry_19 rfl hl (by decide) rfl (fun ls hl => ?_)
    exact (k_B_carry_20_L C fu) _ _ _ _ _ h _ _ _ hP hD hS (lv_sub hl [1, 3, 0] rfl)
  · have h := ite_F c_1 h
    refine lv_aload_n hx hb d_B_carry_7 rfl (lv_at hl 0 rfl) ?_
    refine lv_iload_n hx hb d_B_carry_8 rfl (lv_at hl 3 rfl) ?_
    obtain ⟨v_2, e_2, h⟩ := bd_some h
    refine go_Vv (As := [.int x3]) (rest := []) (wc := (wB a k lab sg cc ci od sd go ta we oe fp ro sp qr qs)) (wr := []) (w1 := (wB a k v_2.1 v_2.2 cc ci od sd go ta we oe fp ro sp qr qs)) (w2 := (wB a k v_2.1 v_2.2 cc ci od sd go ta we oe fp ro sp qr qs)) (tc := [(k 1, .int), (k 2, .int), (k 3, .int), (k 4, .int), (k 5, .boolean), (k 6, .int), (k 8, .int), (k 9, .int), (k 11, .long)]) hx hb hml hown ht (c_B_swapWithNext l D a k H.size x3 lab sg cc ci od sd go ta we oe fp ro sp qr qs v_2 e_2) g_B_145 ⟨rfl, rfl⟩ (n := 1) (by decide +kernel) ⟨(Nat.le_of_ble_eq_true rfl), (Nat.le_of_ble_eq_true rfl)⟩ hP hD hK hS hA ⟨Nat.zero_le _, Nat.zero_le _⟩ [0, 1, 2, 3, 4, 5, 6, 7, 8, 9, 10, 11, 12] [] [0, 1, 2, 3, 4, 5, 6, 7, 8] [0, 1, 2, 3, 4, 5, 6, 7, 8, 9, 10, 11, 12] rfl rfl rfl rfl (by decide) (by decide) (by decide) rfl (by decide) 0 rfl rfl rfl rfl rfl hl.1 (Nat.le_of_ble_eq_true rfl) d_B_carry_9 (fun H locs hP hD hS => ?_)
    refine lv_iinc (v := x3 + 1) (lv' := [(3, .int (x3 + 1)), (0, .ref (a 0)), (1, .int x1), (2, .int x2)]) hx hb d_B_carry_12 hl (k := 3) rfl rfl (by decide) rfl (fun ls hl => ?_)
    refine lv_goto (tgt := 2) hx hb d_B_carry_15 (by decide) ?_
    exact hrec2 _ _ _ _ _ _ h _ _ _ hP hD hS (lv_sub hl [1, 2, 3, 0] rfl)
theorem k_B_carry_2_L {p : Program} {l : Launch} {e : Env} {s : State} {m : MethodId} {args : Array Value} {below : List Frame} {meth : Method} {c : Code} {D : va_G} {A : Nat → Prop} {a : Nat → Nat} {k : Nat → ClassId} {cc : Int32} {ci : Int32} {od : Nat → Int32} {sd : Nat → Int32} {go : Nat → Int32} {ta : Nat → Int32} {we : Int32} {oe : Nat → Int32} {fp : Nat → Int32} {ro : Nat → Int64} {sp : Nat → Int64} {qr : Nat} {qs : Nat} (C : cx D [(k 1, .int), (k 2, .int), (k 3, .int), (k 4, .int), (k 5, .boolean), (k 6, .int), (k 8, .int), (k 9, .int), (k 11, .long)] R_B b_B_carry 4 none A p s m args meth c) : ∀ n : Nat, H_B_carry_2 p l e s m args below meth c D A a k cc ci od sd go ta we oe fp ro sp qr qs (L_B_carry_2 n)
  | 0 => fun _ _ _ _ _ _ h => nomatch h
  | n + 1 => k_B_carry_2 C (k_B_carry_2_L C n)
set_option maxHeartbeats 4000000 in
set_option maxRecDepth 100000 in
theorem k_B_carry_0 {p : Program} {l : Launch} {e : Env} {s : State} {m : MethodId} {args : Array Value} {below : List Frame} {meth : Method} {c : Code} {D : va_G} {A : Nat → Prop} {a : Nat → Nat} {k : Nat → ClassId} {cc : Int32} {ci : Int32} {od : Nat → Int32} {sd : Nat → Int32} {go : Nat → Int32} {ta : Nat → Int32} {we : Int32} {oe : Nat → Int32} {fp : Nat → Int32} {ro : Nat → Int64} {sp : Nat → Int64} {qr : Nat} {qs : Nat} (C : cx D [(k 1, .int), (k 2, .int), (k 3, .int), (k 4, .int), (k 5, .boolean), (k 6, .int), (k 8, .int), (k 9, .int), (k 11, .long)] R_B b_B_carry 4 none A p s m args meth c) : H_B_carry_0 p l e s m args below meth c D A a k cc ci od sd go ta we oe fp ro sp qr qs (J_B_carry_0) := by
  obtain ⟨hx, hb, hr, hml, hown, ht, hlk, hA, hK⟩ := id C
  intro x1 x2 lab sg r h H locs ls hP hD hS hl
  unfold J_B_carry_0 at h
  refine lv_iload_n hx hb d_B_carry_0 rfl (lv_at hl 1 rfl) ?_
  refine lv_istore_n (lv' := [(3, .int x1), (0, .ref (a 0)), (1, .int x1), (2, .int x2)]) hx hb d_B_carry_1 rfl hl (by decide) rfl (fun ls hl => ?_)
  exact (k_B_carry_2_L C fu) _ _ _ _ _ _ h _ _ _ hP hD hS (lv_sub hl [1, 2, 3, 0] rfl)
set_option maxRecDepth 20000 in
theorem c_B_carry (l : Launch) (D : va_G) (a : Nat → Nat) (k : Nat → ClassId) (sz : Nat) (x1 : Int32) (x2 : Int32) (lab : Nat → Int32) (sg : Nat → Int32) (cc : Int32) (ci : Int32) (od : Nat → Int32) (sd : Nat → Int32) (go : Nat → Int32) (ta : Nat → Int32) (we : Int32) (oe : Nat → Int32) (fp : Nat → Int32) (ro : Nat → Int64) (sp : Nat → Int64) (qr : Nat) (qs : Nat) (r : (Nat → Int32) × (Nat → Int32)) (h : F_B_carry x1 x2 lab sg = some r) : Met l y_B_carry (Cond.code y_B_carry b_B_carry 4 none :: lw_g) (rm_B_carry) (va_Pc [.ref (a 0), .int x1, .int x2] (pcW D [(k 1, .int), (k 2, .int), (k 3, .int), (k 4, .int), (k 5, .boolean), (k 6, .int), (k 8, .int), (k 9, .int), (k 11, .long)] (wB a k lab sg cc ci od sd go ta we oe fp ro sp qr qs) sz)) (qc_B_carry D (va_A (wB a k lab sg cc ci od sd go ta we oe fp ro sp qr qs) sz) a k cc ci od sd go ta we oe fp ro sp qr qs r) 0 0 (va_A (wB a k lab sg cc ci od sd go ta we oe fp ro sp qr qs) sz) := by
  refine Met.ofW (cc := b_B_carry) (maxL := 4) (ret := none) (by decide) rfl ?_
  intro p e s m args below meth c s₁ B hml hv
  obtain ⟨rfl, hsz, hP, hK, hD0⟩ := hv
  have hts := atoms_spec (ws := Cond.code y_B_carry b_B_carry 4 none :: lw_g) B.pre
  subst hsz
  have hD := hD0.self (sz := s.heap.size)
  have hl := lv_entry ([.ref (a 0), .int x1, .int x2]) (n := 4) (Nat.le_of_ble_eq_true rfl)
  rw [lg_entry_eq]
  generalize (lg_sl ([.ref (a 0), .int x1, .int x2]) ++ List.replicate (4 - (lg_sl ([.ref (a 0), .int x1, .int x2])).length) Slot.unset).toArray = ls at hl ⊢
  exact k_B_carry_0 ⟨B.exec, B.bytes, B.returns, hml, findClass_of_methodNamed B.named, fun w hw => hts w (List.mem_cons_of_mem _ hw), B.notSynchronized, fun q h => Or.inr h, hK⟩ _ _ _ _ _ h _ _ _ hP hD va_S.rf hl
end
section
def rm_B_tallyFrom (dp : Nat) : Room := { frames := dp + 2, cells := 0, slots := 0, locals := dp * 26 + 47 }
def qc_B_tallyFrom (D : va_G) (A : Nat → Prop) (a : Nat → Nat) (k : Nat → ClassId) (lab : Nat → Int32) (sg : Nat → Int32) (cc : Int32) (ci : Int32) (od : Nat → Int32) (sd : Nat → Int32) (go : Nat → Int32) (we : Int32) (fp : Nat → Int32) (ro : Nat → Int64) (sp : Nat → Int64) (qr : Nat) (qs : Nat) (r : (Nat → Int32) × (Nat → Int32)) : Array Value → State → Outcome → State → Prop := va_Qv (fun (_ : Unit) => True) (poW D [(k 1, .int), (k 2, .int), (k 3, .int), (k 4, .int), (k 5, .boolean), (k 6, .int), (k 8, .int), (k 9, .int), (k 11, .long)] (wB a k lab sg cc ci od sd go r.1 we r.2 fp ro sp qr qs) A) A
def J_B_tallyFrom_0 (recF : Int32 → Int32 → Int32 → Int32 → (Nat → Int32) → (Nat → Int32) → (Nat → Int32) → Option ((Nat → Int32) × (Nat → Int32))) (x1 : Int32) (x2 : Int32) (x3 : Int32) (cc : Int32) (od : Nat → Int32) (ta : Nat → Int32) (oe : Nat → Int32) : Option ((Nat → Int32) × (Nat → Int32)) :=
  (if x1 < cc then (if inb x1 10 then (Option.bind (F_W_smooth (od x1.toNatClampNeg) (1 : Int32) oe) (fun v_3 => (Option.bind (recF (x1 + (1 : Int32)) (x2 + (1 : Int32)) (x3 + v_3.1) cc od ta v_3.2) (fun v_4 => (Option.bind (F_W_undo (od x1.toNatClampNeg) (1 : Int32) v_4.2) (fun v_5 => (Option.bind (F_W_smooth (od x1.toNatClampNeg) (0 : Int32) v_5) (fun v_6 => (Option.bind (recF (x1 + (1 : Int32)) x2 (x3 + v_6.1) cc od v_4.1 v_6.2) (fun v_7 => (Option.bind (F_W_undo (od x1.toNatClampNeg) (0 : Int32) v_7.2) (fun v_8 => some (v_7.1, v_8))))))))))))) else none) else (if inb ((x2 * (30 : Int32)) + x3) 330 then (if inb ((x2 * (30 : Int32)) + x3) 330 then some ((upd ta ((x2 * (30 : Int32)) + x3).toNatClampNeg ((ta ((x2 * (30 : Int32)) + x3).toNatClampNeg) + (1 : Int32))), oe) else none) else none))
def F_B_tallyFrom : Nat → Int32 → Int32 → Int32 → Int32 → (Nat → Int32) → (Nat → Int32) → (Nat → Int32) → Option ((Nat → Int32) × (Nat → Int32))
  | 0 => fun _ _ _ _ _ _ _ => none
  | n + 1 => J_B_tallyFrom_0 (F_B_tallyFrom n)
def CT_B_tallyFrom (l : Launch) (D : va_G) (a : Nat → Nat) (k : Nat → ClassId) (dp : Nat) (f : Int32 → Int32 → Int32 → Int32 → (Nat → Int32) → (Nat → Int32) → (Nat → Int32) → Option ((Nat → Int32) × (Nat → Int32))) : Prop := ∀ (sz : Nat) (x1 : Int32) (x2 : Int32) (x3 : Int32) (lab : Nat → Int32) (sg : Nat → Int32) (cc : Int32) (ci : Int32) (od : Nat → Int32) (sd : Nat → Int32) (go : Nat → Int32) (ta : Nat → Int32) (we : Int32) (oe : Nat → Int32) (fp : Nat → Int32) (ro : Nat → Int64) (sp : Nat → Int64) (qr : Nat) (qs : Nat) (r : (Nat → Int32) × (Nat → Int32)), f x1 x2 x3 cc od ta oe = some r → Met l y_B_tallyFrom (Cond.code y_B_tallyFrom b_B_tallyFrom 7 none :: lw_g) (rm_B_tallyFrom dp) (va_Pc [.ref (a 0), .int x1, .int x2, .int x3] (pcW D [(k 1, .int), (k 2, .int), (k 3, .int), (k 4, .int), (k 5, .boolean), (k 6, .int), (k 8, .int), (k 9, .int), (k 11, .long)] (wB a k lab sg cc ci od sd go ta we oe fp ro sp qr qs) sz)) (qc_B_tallyFrom D (va_A (wB a k lab sg cc ci od sd go ta we oe fp ro sp qr qs) sz) a k lab sg cc ci od sd go we fp ro sp qr qs r) 0 0 (va_A (wB a k lab sg cc ci od sd go ta we oe fp ro sp qr qs) sz)
def H_B_tallyFrom_0 (p : Program) (l : Launch) (e : Env) (s : State) (m : MethodId) (args : Array Value) (below : List Frame) (meth : Method) (c : Code) (D : va_G) (A : Nat → Prop) (a : Nat → Nat) (k : Nat → ClassId) (lab : Nat → Int32) (sg : Nat → Int32) (ci : Int32) (sd : Nat → Int32) (go : Nat → Int32) (we : Int32) (fp : Nat → Int32) (ro : Nat → Int64) (sp : Nat → Int64) (qr : Nat) (qs : Nat) (dp : Nat) (f : Int32 → Int32 → Int32 → Int32 → (Nat → Int32) → (Nat → Int32) → (Nat → Int32) → Option ((Nat → Int32) × (Nat → Int32))) : Prop := ∀ (x1 : Int32) (x2 : Int32) (x3 : Int32) (cc : Int32) (od : Nat → Int32) (ta : Nat → Int32) (oe : Nat → Int32) (r : (Nat → Int32) × (Nat → Int32)), f x1 x2 x3 cc od ta oe = some r → ∀ (H : Heap) (locs : List Loc) (ls : Array Slot), va_P D classes (wB a k lab sg cc ci od sd go ta we oe fp ro sp qr qs) H → va_D A (wB a k lab sg cc ci od sd go ta we oe fp ro sp qr qs) → va_S A s.heap H locs → lv_has ls 7 [(0, .ref (a 0)), (1, .int x1), (2, .int x2), (3, .int x3)] → W p l e (rm_B_tallyFrom (dp + 1)) s m args below meth c H locs 0 0 (MQ below (qc_B_tallyFrom D A a k lab sg cc ci od sd go we fp ro sp qr qs r) args s 0 0 A) (F0 m 0 ls [])
set_option maxHeartbeats 4000000 in
set_option maxRecDepth 100000 in
theorem k_B_tallyFrom_0 {p : Program} {l : Launch} {e : Env} {s : State} {m : MethodId} {args : Array Value} {below : List Frame} {meth : Method} {c : Code} {D : va_G} {A : Nat → Prop} {a : Nat → Nat} {k : Nat → ClassId} {lab : Nat → Int32} {sg : Nat → Int32} {ci : Int32} {sd : Nat → Int32} {go : Nat → Int32} {we : Int32} {fp : Nat → Int32} {ro : Nat → Int64} {sp : Nat → Int64} {qr : Nat} {qs : Nat} {dp : Nat} {recF : Int32 → Int32 → Int32 → Int32 → (Nat → Int32) → (Nat → Int32) → (Nat → Int32) → Option ((Nat → Int32) × (Nat → Int32))} (C : cx D [(k 1, .int), (k 2, .int), (k 3, .int), (k 4, .int), (k 5, .boolean), (k 6, .int), (k 8, .int), (k 9, .int), (k 11, .long)] R_B b_B_tallyFrom 7 none A p s m args meth c) (hrecF : CT_B_tallyFrom l D a k dp recF) : H_B_tallyFrom_0 p l e s m args below meth c D A a k lab sg ci sd go we fp ro sp qr qs dp (J_B_tallyFrom_0 recF) := by
  obtain ⟨hx, hb, hr, hml, hown, ht, hlk, hA, hK⟩ := id C
  intro x1 x2 x3 cc od ta oe r h H locs ls hP hD hS hl
  unfold J_B_tallyFrom_0 at h
  refine lv_iload_n hx hb d_B_tallyFrom_0 rfl (lv_at hl 1 rfl) ?_
  refine lv_aload_n hx hb d_B_tallyFrom_1 rfl (lv_at hl 0 rfl) ?_
  refine va_get (D := D) (ci := 0) (v := .int cc) (C := R_B) (T := F_B) (N := 11) hx hb ht iC_B hown hK hP 0 rfl rfl 2 (by decide) (ht _ ix_38) (fun _ h9 => h9) rfl d_B_tallyFrom_2 ?_
  refine lv_icmp_lt (tgt := 24) hx hb d_B_tallyFrom_5 (by decide) (fun c_1 => ?_) (fun c_1 => ?_)
  · have h := ite_T c_1 h
    refine lv_aload_n hx hb d_B_tallyFrom_24 rfl (lv_at hl 0 rfl) ?_
    refine va_get (D := D) (ci := 0) (v := .ref (a 3)) (C := R_B) (T := F_B) (N := 11) hx hb ht iC_B hown hK hP 0 rfl rfl 4 (by decide) (ht _ ix_40) (fun _ h9 => h9) rfl d_B_tallyFrom_25 ?_
    refine lv_iload_n hx hb d_B_tallyFrom_28 rfl (lv_at hl 1 rfl) ?_
    obtain ⟨g_2, h⟩ := gd_some h
    refine va_iald hx hb hK hP 3 2 rfl rfl (inb_in g_2) d_B_tallyFrom_29 ?_
    refine lv_istore (lv' := [(4, .int (od x1.toNatClampNeg)), (0, .ref (a 0)), (1, .int x1), (2, .int x2), (3, .int x3)]) hx hb d_B_tallyFrom_30 hl (by decide) rfl (fun ls hl => ?_)
    refine lv_aload_n hx hb d_B_tallyFrom_32 rfl (lv_at hl 1 rfl) ?_
    refine va_get (D := D) (ci := 0) (v := .ref (a 7)) (C := R_B) (T := F_B) (N := 11) hx hb ht iC_B hown hK hP 0 rfl rfl 8 (by decide) (ht _ ix_71) (fun _ h9 => h9) rfl d_B_tallyFrom_33 ?_
    refine lv_iload hx hb d_B_tallyFrom_36 (lv_at hl 0 rfl) ?_
    refine lv_iconst (v := 1) hx hb d_B_tallyFrom_38 (by decide) ?_
    obtain ⟨v_3, e_3, h⟩ := bd_some h
    refine go_Vi (r := v_3.1) (As := [.int (od x1.toNatClampNeg), .int (1 : Int32)]) (rest := []) (wc := (wW a k oe fp)) (wr := [((a 0), .inr (0, [.ref (a 1), .ref (a 2), .int cc, .int ci, .ref (a 3), .ref (a 4), .ref (a 5), .ref (a 6), .ref (a 7), .ref (a 10), .int we])), ((a 1), .inl (k 1, 40, .inl lab)), ((a 2), .inl (k 2, 10, .inl sg)), ((a 3), .inl (k 3, 10, .inl od)), ((a 4), .inl (k 4, 100, .inl sd)), ((a 5), .inl (k 5, 10, .inl go)), ((a 6), .inl (k 6, 330, .inl ta)), ((a 10), .inr (2, [.ref qr, .ref qs])), (qr, .inl (k 11, 133, .inr (.inl ro))), (qs, .inl (k 11, 133, .inr (.inl sp)))]) (w1 := (wW a k v_3.2 fp)) (w2 := (wB a k lab sg cc ci od sd go ta we v_3.2 fp ro sp qr qs)) (tc := [(k 8, .int), (k 9, .int)]) hx hb hml hown ht (c_W_smooth l D a k H.size (od x1.toNatClampNeg) (1 : Int32) oe fp v_3 e_3) g_B_113 ⟨rfl, rfl⟩ (n := 2) (by decide +kernel) ⟨(by simp only [rm_B_tallyFrom, rm_W_smooth]; omega), (by simp only [rm_B_tallyFrom, rm_W_smooth]; omega)⟩ hP hD hK hS hA ⟨Nat.zero_le _, Nat.zero_le _⟩ [7, 8, 9] [0, 1, 2, 3, 4, 5, 6, 10, 11, 12] [6, 7] [0, 1, 2, 3, 4, 5, 6, 10, 11, 12, 7, 8, 9] rfl rfl rfl rfl (by decide) (by decide) (by decide) rfl (by decide) 0 rfl rfl rfl rfl rfl hl.1 (Nat.le_of_ble_eq_true rfl) d_B_tallyFrom_39 (fun H locs hP hD hS => ?_)
    refine lv_istore (lv' := [(5, .int v_3.1), (4, .int (od x1.toNatClampNeg)), (0, .ref (a 0)), (1, .int x1), (2, .int x2), (3, .int x3)]) hx hb d_B_tallyFrom_42 hl (by decide) rfl (fun ls hl => ?_)
    refine lv_aload_n hx hb d_B_tallyFrom_44 rfl (lv_at hl 2 rfl) ?_
    refine lv_iload_n hx hb d_B_tallyFrom_45 rfl (lv_at hl 3 rfl) ?_
    refine lv_iconst (v := 1) hx hb d_B_tallyFrom_46 (by decide) ?_
    refine lv_iadd hx hb d_B_tallyFrom_47 ?_
    refine lv_iload_n hx hb d_B_tallyFrom_48 rfl (lv_at hl 4 rfl) ?_
    refine lv_iconst (v := 1) hx hb d_B_tallyFrom_49 (by decide) ?_
    refine lv_iadd hx hb d_B_tallyFrom_50 ?_
    refine lv_iload_n hx hb d_B_tallyFrom_51 rfl (lv_at hl 5 rfl) ?_
    refine lv_iload hx hb d_B_tallyFrom_52 (lv_at hl 0 rfl) ?_
    refine lv_iadd hx hb d_B_tallyFrom_54 ?_
    obtain ⟨v_4, e_4, h⟩ := bd_some h
    refine go_Sv (As := [.ref (a 0), .int (x1 + (1 : Int32)), .int (x2 + (1 : Int32)), .int (x3 + v_3.1)]) (rest := []) (wc := (wB a k lab sg cc ci od sd go ta we v_3.2 fp ro sp qr qs)) (wr := []) (w1 := (wB a k lab sg cc ci od sd go v_4.1 we v_4.2 fp ro sp qr qs)) (w2 := (wB a k lab sg cc ci od sd go v_4.1 we v_4.2 fp ro sp qr qs)) (tc := [(k 1, .int), (k 2, .int), (k 3, .int), (k 4, .int), (k 5, .boolean), (k 6, .int), (k 8, .int), (k 9, .int), (k 11, .long)]) hx hb hml hown ht (hrecF H.size (x1 + (1 : Int32)) (x2 + (1 : Int32)) (x3 + v_3.1) lab sg cc ci od sd go ta we v_3.2 fp ro sp qr qs v_4 e_4) g_B_158 ⟨rfl, rfl⟩ (n := 4) (by decide +kernel) ⟨(by simp only [rm_B_tallyFrom]; omega), (by simp only [rm_B_tallyFrom]; omega)⟩ hP hD hK hS hA ⟨Nat.zero_le _, Nat.zero_le _⟩ [0, 1, 2, 3, 4, 5, 6, 7, 8, 9, 10, 11, 12] [] [0, 1, 2, 3, 4, 5, 6, 7, 8] [0, 1, 2, 3, 4, 5, 6, 7, 8, 9, 10, 11, 12] rfl rfl rfl rfl (by decide) (by decide) (by decide) rfl (by decide) rfl rfl hl.1 (Nat.le_of_ble_eq_true rfl) d_B_tallyFrom_55 (fun H locs hP hD hS => ?_)
    refine lv_aload_n hx hb d_B_tallyFrom_58 rfl (lv_at hl 2 rfl) ?_
    refine va_get (D := D) (ci := 0) (v := .ref (a 7)) (C := R_B) (T := F_B) (N := 11) hx hb ht iC_B hown hK hP 0 rfl rfl 8 (by decide) (ht _ ix_71) (fun _ h9 => h9) rfl d_B_tallyFrom_59 ?_
    refine lv_iload hx hb d_B_tallyFrom_62 (lv_at hl 1 rfl) ?_
    refine lv_iconst (v := 1) hx hb d_B_tallyFrom_64 (by decide) ?_
    obtain ⟨v_5, e_5, h⟩ := bd_some h
    refine go_Vv (As := [.int (od x1.toNatClampNeg), .int (1 : Int32)]) (rest := []) (wc := (wW a k v_4.2 fp)) (wr := [((a 0), .inr (0, [.ref (a 1), .ref (a 2), .int cc, .int ci, .ref (a 3), .ref (a 4), .ref (a 5), .ref (a 6), .ref (a 7), .ref (a 10), .int we])), ((a 1), .inl (k 1, 40, .inl lab)), ((a 2), .inl (k 2, 10, .inl sg)), ((a 3), .inl (k 3, 10, .inl od)), ((a 4), .inl (k 4, 100, .inl sd)), ((a 5), .inl (k 5, 10, .inl go)), ((a 6), .inl (k 6, 330, .inl v_4.1)), ((a 10), .inr (2, [.ref qr, .ref qs])), (qr, .inl (k 11, 133, .inr (.inl ro))), (qs, .inl (k 11, 133, .inr (.inl sp)))]) (w1 := (wW a k v_5 fp)) (w2 := (wB a k lab sg cc ci od sd go v_4.1 we v_5 fp ro sp qr qs)) (tc := [(k 8, .int), (k 9, .int)]) hx hb hml hown ht (c_W_undo l D a k H.size (od x1.toNatClampNeg) (1 : Int32) v_4.2 fp v_5 e_5) g_B_162 ⟨rfl, rfl⟩ (n := 2) (by decide +kernel) ⟨(by simp only [rm_B_tallyFrom, rm_W_undo]; omega), (by simp only [rm_B_tallyFrom, rm_W_undo]; omega)⟩ hP hD hK hS hA ⟨Nat.zero_le _, Nat.zero_le _⟩ [7, 8, 9] [0, 1, 2, 3, 4, 5, 6, 10, 11, 12] [6, 7] [0, 1, 2, 3, 4, 5, 6, 10, 11, 12, 7, 8, 9] rfl rfl rfl rfl (by decide) (by decide) (by decide) rfl (by decide) 0 rfl rfl rfl rfl rfl hl.1 (Nat.le_of_ble_eq_true rfl) d_B_tallyFrom_65 (fun H locs hP hD hS => ?_)
    refine lv_aload_n hx hb d_B_tallyFrom_68 rfl (lv_at hl 2 rfl) ?_
    refine va_get (D := D) (ci := 0) (v := .ref (a 7)) (C := R_B) (T := F_B) (N := 11) hx hb ht iC_B hown hK hP 0 rfl rfl 8 (by decide) (ht _ ix_71) (fun _ h9 => h9) rfl d_B_tallyFrom_69 ?_
    refine lv_iload hx hb d_B_tallyFrom_72 (lv_at hl 1 rfl) ?_
    refine lv_iconst (v := 0) hx hb d_B_tallyFrom_74 (by decide) ?_
    obtain ⟨v_6, e_6, h⟩ := bd_some h
    refine go_Vi (r := v_6.1) (As := [.int (od x1.toNatClampNeg), .int (0 : Int32)]) (rest := []) (wc := (wW a k v_5 fp)) (wr := [((a 0), .inr (0, [.ref (a 1), .ref (a 2), .int cc, .int ci, .ref (a 3), .ref (a 4), .ref (a 5), .ref (a 6), .ref (a 7), .ref (a 10), .int we])), ((a 1), .inl (k 1, 40, .inl lab)), ((a 2), .inl (k 2, 10, .inl sg)), ((a 3), .inl (k 3, 10, .inl od)), ((a 4), .inl (k 4, 100, .inl sd)), ((a 5), .inl (k 5, 10, .inl go)), ((a 6), .inl (k 6, 330, .inl v_4.1)), ((a 10), .inr (2, [.ref qr, .ref qs])), (qr, .inl (k 11, 133, .inr (.inl ro))), (qs, .inl (k 11, 133, .inr (.inl sp)))]) (w1 := (wW a k v_6.2 fp)) (w2 := (wB a k lab sg cc ci od sd go v_4.1 we v_6.2 fp ro sp qr qs)) (tc := [(k 8, .int), (k 9, .int)]) hx hb hml hown ht (c_W_smooth l D a k H.size (od x1.toNatClampNeg) (0 : Int32) v_5 fp v_6 e_6) g_B_113 ⟨rfl, rfl⟩ (n := 2) (by decide +kernel) ⟨(by simp only [rm_B_tallyFrom, rm_W_smooth]; omega), (by simp only [rm_B_tallyFrom, rm_W_smooth]; omega)⟩ hP hD hK hS hA ⟨Nat.zero_le _, Nat.zero_le _⟩ [7, 8, 9] [0, 1, 2, 3, 4, 5, 6, 10, 11, 12] [6, 7] [0, 1, 2, 3, 4, 5, 6, 10, 11, 12, 7, 8, 9] rfl rfl rfl rfl (by decide) (by decide) (by decide) rfl (by decide) 0 rfl rfl rfl rfl rfl hl.1 (Nat.le_of_ble_eq_true rfl) d_B_tallyFrom_75 (fun H locs hP hD hS => ?_)
    refine lv_istore (lv' := [(6, .int v_6.1), (5, .int v_3.1), (4, .int (od x1.toNatClampNeg)), (0, .ref (a 0)), (1, .int x1), (2, .int x2), (3, .int x3)]) hx hb d_B_tallyFrom_78 hl (by decide) rfl (fun ls hl => ?_)
    refine lv_aload_n hx hb d_B_tallyFrom_80 rfl (lv_at hl 3 rfl) ?_
    refine lv_iload_n hx hb d_B_tallyFrom_81 rfl (lv_at hl 4 rfl) ?_
    refine lv_iconst (v := 1) hx hb d_B_tallyFrom_82 (by decide) ?_
    refine lv_iadd hx hb d_B_tallyFrom_83 ?_
    refine lv_iload_n hx hb d_B_tallyFrom_84 rfl (lv_at hl 5 rfl) ?_
    refine lv_iload_n hx hb d_B_tallyFrom_85 rfl (lv_at hl 6 rfl) ?_
    refine lv_iload hx hb d_B_tallyFrom_86 (lv_at hl 0 rfl) ?_
    refine lv_iadd hx hb d_B_tallyFrom_88 ?_
    obtain ⟨v_7, e_7, h⟩ := bd_some h
    refine go_Sv (As := [.ref (a 0), .int (x1 + (1 : Int32)), .int x2, .int (x3 + v_6.1)]) (rest := []) (wc := (wB a k lab sg cc ci od sd go v_4.1 we v_6.2 fp ro sp qr qs)) (wr := []) (w1 := (wB a k lab sg cc ci od sd go v_7.1 we v_7.2 fp ro sp qr qs)) (w2 := (wB a k lab sg cc ci od sd go v_7.1 we v_7.2 fp ro sp qr qs)) (tc := [(k 1, .int), (k 2, .int), (k 3, .int), (k 4, .int), (k 5, .boolean), (k 6, .int), (k 8, .int), (k 9, .int), (k 11, .long)]) hx hb hml hown ht (hrecF H.size (x1 + (1 : Int32)) x2 (x3 + v_6.1) lab sg cc ci od sd go v_4.1 we v_6.2 fp ro sp qr qs v_7 e_7) g_B_158 ⟨rfl, rfl⟩ (n := 4) (by decide +kernel) ⟨(by simp only [rm_B_tallyFrom]; omega), (by simp only [rm_B_tallyFrom]; omega)⟩ hP hD hK hS hA ⟨Nat.zero_le _, Nat.zero_le _⟩ [0, 1, 2, 3, 4, 5, 6, 7, 8, 9, 10, 11, 12] [] [0, 1, 2, 3, 4, 5, 6, 7, 8] [0, 1, 2, 3, 4, 5, 6, 7, 8, 9, 10, 11, 12] rfl rfl rfl rfl (by decide) (by decide) (by decide) rfl (by decide) rfl rfl hl.1 (Nat.le_of_ble_eq_true rfl) d_B_tallyFrom_89 (fun H locs hP hD hS => ?_)
    refine lv_aload_n hx hb d_B_tallyFrom_92 rfl (lv_at hl 3 rfl) ?_
    refine va_get (D := D) (ci := 0) (v := .ref (a 7)) (C := R_B) (T := F_B) (N := 11) hx hb ht iC_B hown hK hP 0 rfl rfl 8 (by decide) (ht _ ix_71) (fun _ h9 => h9) rfl d_B_tallyFrom_93 ?_
    refine lv_iload hx hb d_B_tallyFrom_96 (lv_at hl 2 rfl) ?_
    refine lv_iconst (v := 0) hx hb d_B_tallyFrom_98 (by decide) ?_
    obtain ⟨v_8, e_8, h⟩ := bd_some h
    refine go_Vv (As := [.int (od x1.toNatClampNeg), .int (0 : Int32)]) (rest := []) (wc := (wW a k v_7.2 fp)) (wr := [((a 0), .inr (0, [.ref (a 1), .ref (a 2), .int cc, .int ci, .ref (a 3), .ref (a 4), .ref (a 5), .ref (a 6), .ref (a 7), .ref (a 10), .int we])), ((a 1), .inl (k 1, 40, .inl lab)), ((a 2), .inl (k 2, 10, .inl sg)), ((a 3), .inl (k 3, 10, .inl od)), ((a 4), .inl (k 4, 100, .inl sd)), ((a 5), .inl (k 5, 10, .inl go)), ((a 6), .inl (k 6, 330, .inl v_7.1)), ((a 10), .inr (2, [.ref qr, .ref qs])), (qr, .inl (k 11, 133, .inr (.inl ro))), (qs, .inl (k 11, 133, .inr (.inl sp)))]) (w1 := (wW a k v_8 fp)) (w2 := (wB a k lab sg cc ci od sd go v_7.1 we v_8 fp ro sp qr qs)) (tc := [(k 8, .int), (k 9, .int)]) hx hb hml hown ht (c_W_undo l D a k H.size (od x1.toNatClampNeg) (0 : Int32) v_7.2 fp v_8 e_8) g_B_162 ⟨rfl, rfl⟩ (n := 2) (by decide +kernel) ⟨(by simp only [rm_B_tallyFrom, rm_W_undo]; omega), (by simp only [rm_B_tallyFrom, rm_W_undo]; omega)⟩ hP hD hK hS hA ⟨Nat.zero_le _, Nat.zero_le _⟩ [7, 8, 9] [0, 1, 2, 3, 4, 5, 6, 10, 11, 12] [6, 7] [0, 1, 2, 3, 4, 5, 6, 10, 11, 12, 7, 8, 9] rfl rfl rfl rfl (by decide) (by decide) (by decide) rfl (by decide) 0 rfl rfl rfl rfl rfl hl.1 (Nat.le_of_ble_eq_true rfl) d_B_tallyFrom_99 (fun H locs hP hD hS => ?_)
    cases h
    exact W.vret hx hb hr (fun t ht hW => ⟨⟨(), rfl, trivial, by rw [ht]; exact hP, va_K.moved hW.alike hK, hD⟩, hS.F ht⟩) hS.2.2 d_B_tallyFrom_102 hlk
  · have h := ite_F c_1 h
    refine lv_aload_n hx hb d_B_tallyFrom_8 rfl (lv_at hl 0 rfl) ?_
    refine va_get (D := D) (ci := 0) (v := .ref (a 6)) (C := R_B) (T := F_B) (N := 11) hx hb ht iC_B hown hK hP 0 rfl rfl 7 (by decide) (ht _ ix_83) (fun _ h9 => h9) rfl d_B_tallyFrom_9 ?_
    refine lv_iload_n hx hb d_B_tallyFrom_12 rfl (lv_at hl 2 rfl) ?_
    refine lv_bipush (v := 30) hx hb d_B_tallyFrom_13 (by decide) ?_
    refine lv_imul hx hb d_B_tallyFrom_15 ?_
    refine lv_iload_n hx hb d_B_tallyFrom_16 rfl (lv_at hl 3 rfl) ?_
    refine lv_iadd hx hb d_B_tallyFrom_17 ?_
    refine lv_dup2_11 hx hb d_B_tallyFrom_18 rfl rfl ?_
    obtain ⟨g_9, h⟩ := gd_some h
    refine va_iald hx hb hK hP 6 5 rfl rfl (inb_in g_9) d_B_tallyFrom_19 ?_
    refine lv_iconst (v := 1) hx hb d_B_tallyFrom_20 (by decide) ?_
    refine lv_iadd hx hb d_B_tallyFrom_21 ?_
    obtain ⟨g_10, h⟩ := gd_some h
    refine va_iast hx hb hK hP hD hS 6 5 rfl rfl (inb_in g_10) d_B_tallyFrom_22 (fun H locs hP hD hS => ?_)
    have hP : va_P D classes (wB a k lab sg cc ci od sd go (upd ta ((x2 * (30 : Int32)) + x3).toNatClampNeg ((ta ((x2 * (30 : Int32)) + x3).toNatClampNeg) + (1 : Int32))) we oe fp ro sp qr qs) H := hP
    have hD : va_D A (wB a k lab sg cc ci od sd go (upd ta ((x2 * (30 : Int32)) + x3).toNatClampNeg ((ta ((x2 * (30 : Int32)) + x3).toNatClampNeg) + (1 : Int32))) we oe fp ro sp qr qs) := hD
    cases h
    exact W.vret hx hb hr (fun t ht hW => ⟨⟨(), rfl, trivial, by rw [ht]; exact hP, va_K.moved hW.alike hK, hD⟩, hS.F ht⟩) hS.2.2 d_B_tallyFrom_23 hlk
set_option maxRecDepth 20000 in
theorem c1_B_tallyFrom (l : Launch) (D : va_G) (a : Nat → Nat) (k : Nat → ClassId) (dp : Nat) (recF : Int32 → Int32 → Int32 → Int32 → (Nat → Int32) → (Nat → Int32) → (Nat → Int32) → Option ((Nat → Int32) × (Nat → Int32))) (hrecF : CT_B_tallyFrom l D a k dp recF) : CT_B_tallyFrom l D a k (dp + 1) (J_B_tallyFrom_0 recF) := by
  intro sz x1 x2 x3 lab sg cc ci od sd go ta we oe fp ro sp qr qs r h
  refine Met.ofW (cc := b_B_tallyFrom) (maxL := 7) (ret := none) (by decide) rfl ?_
  intro p e s m args below meth c s₁ B hml hv
  obtain ⟨rfl, hsz, hP, hK, hD0⟩ := hv
  have hts := atoms_spec (ws := Cond.code y_B_tallyFrom b_B_tallyFrom 7 none :: lw_g) B.pre
  subst hsz
  have hD := hD0.self (sz := s.heap.size)
  have hl := lv_entry ([.ref (a 0), .int x1, .int x2, .int x3]) (n := 7) (Nat.le_of_ble_eq_true rfl)
  rw [lg_entry_eq]
  generalize (lg_sl ([.ref (a 0), .int x1, .int x2, .int x3]) ++ List.replicate (7 - (lg_sl ([.ref (a 0), .int x1, .int x2, .int x3])).length) Slot.unset).toArray = ls at hl ⊢
  exact k_B_tallyFrom_0 ⟨B.exec, B.bytes, B.returns, hml, findClass_of_methodNamed B.named, fun w hw => hts w (List.mem_cons_of_mem _ hw), B.notSynchronized, fun q h => Or.inr h, hK⟩ hrecF _ _ _ _ _ _ _ _ h _ _ _ hP hD va_S.rf hl
theorem c_B_tallyFrom (l : Launch) (D : va_G) (a : Nat → Nat) (k : Nat → ClassId) : ∀ dp : Nat, CT_B_tallyFrom l D a k dp (F_B_tallyFrom dp)
  | 0 => fun _ _ _ _ _ _ _ _ _ _ _ _ _ _ _ _ _ _ _ _ h => nomatch h
  | n + 1 => c1_B_tallyFrom l D a k n _ (c_B_tallyFrom l D a k n)

def rm_B_tallyStates : Room := { frames := 15, cells := 0, slots := 0, locals := 385 }
def qc_B_tallyStates (D : va_G) (A : Nat → Prop) (a : Nat → Nat) (k : Nat → ClassId) (lab : Nat → Int32) (sg : Nat → Int32) (cc : Int32) (ci : Int32) (od : Nat → Int32) (sd : Nat → Int32) (go : Nat → Int32) (we : Int32) (ro : Nat → Int64) (sp : Nat → Int64) (qr : Nat) (qs : Nat) (r : (Nat → Int32) × (Nat → Int32) × (Nat → Int32)) : Array Value → State → Outcome → State → Prop := va_Qv (fun (_ : Unit) => True) (poW D [(k 1, .int), (k 2, .int), (k 3, .int), (k 4, .int), (k 5, .boolean), (k 6, .int), (k 8, .int), (k 9, .int), (k 11, .long)] (wB a k lab sg cc ci od sd go r.1 we r.2.1 r.2.2 ro sp qr qs) A) A
def J_B_tallyStates_60 (y0 : Int32) (y1 : Int32) (y2 : Int32) (lab : Nat → Int32) (cc : Int32) (ci : Int32) (od : Nat → Int32) (ta : Nat → Int32) (oe : Nat → Int32) (fp : Nat → Int32) : Option ((Nat → Int32) × (Nat → Int32) × (Nat → Int32)) :=
  (Option.bind (F_B_tallyFrom 12 y2 y1 y0 cc od ta oe) (fun v_1 => some (v_1.1, v_1.2, fp)))
def J_B_tallyStates_44 (y0 : Int32) (lab : Nat → Int32) (cc : Int32) (ci : Int32) (od : Nat → Int32) (ta : Nat → Int32) (oe : Nat → Int32) (fp : Nat → Int32) : Option ((Nat → Int32) × (Nat → Int32) × (Nat → Int32)) :=
  (if y0 = 0 then J_B_tallyStates_60 ci (0 : Int32) (0 : Int32) lab cc ci od ta oe fp else J_B_tallyStates_60 (1 : Int32) (0 : Int32) (0 : Int32) lab cc ci od ta oe fp)
def J_B_tallyStates_43 (lab : Nat → Int32) (cc : Int32) (ci : Int32) (od : Nat → Int32) (ta : Nat → Int32) (oe : Nat → Int32) (fp : Nat → Int32) : Option ((Nat → Int32) × (Nat → Int32) × (Nat → Int32)) :=
  J_B_tallyStates_44 (0 : Int32) lab cc ci od ta oe fp
def J_B_tallyStates_0 (lab : Nat → Int32) (cc : Int32) (ci : Int32) (od : Nat → Int32) (ta : Nat → Int32) (oe : Nat → Int32) (fp : Nat → Int32) : Option ((Nat → Int32) × (Nat → Int32) × (Nat → Int32)) :=
  (Option.bind (F_W_followLabels ((4 : Int32) * cc) oe fp lab) (fun v_1 => (if cc = 0 then (if ci = 0 then J_B_tallyStates_44 (1 : Int32) lab cc ci od (fun _ => (0 : Int32)) v_1.1 v_1.2 else J_B_tallyStates_43 lab cc ci od (fun _ => (0 : Int32)) v_1.1 v_1.2) else J_B_tallyStates_43 lab cc ci od (fun _ => (0 : Int32)) v_1.1 v_1.2)))
def F_B_tallyStates (lab : Nat → Int32) (cc : Int32) (ci : Int32) (od : Nat → Int32) (ta : Nat → Int32) (oe : Nat → Int32) (fp : Nat → Int32) : Option ((Nat → Int32) × (Nat → Int32) × (Nat → Int32)) := J_B_tallyStates_0 lab cc ci od ta oe fp
def H_B_tallyStates_60 (p : Program) (l : Launch) (e : Env) (s : State) (m : MethodId) (args : Array Value) (below : List Frame) (meth : Method) (c : Code) (D : va_G) (A : Nat → Prop) (a : Nat → Nat) (k : Nat → ClassId) (sg : Nat → Int32) (sd : Nat → Int32) (go : Nat → Int32) (we : Int32) (ro : Nat → Int64) (sp : Nat → Int64) (qr : Nat) (qs : Nat) (f : Int32 → Int32 → Int32 → (Nat → Int32) → Int32 → Int32 → (Nat → Int32) → (Nat → Int32) → (Nat → Int32) → (Nat → Int32) → Option ((Nat → Int32) × (Nat → Int32) × (Nat → Int32))) : Prop := ∀ (y0 : Int32) (y1 : Int32) (y2 : Int32) (lab : Nat → Int32) (cc : Int32) (ci : Int32) (od : Nat → Int32) (ta : Nat → Int32) (oe : Nat → Int32) (fp : Nat → Int32) (r : (Nat → Int32) × (Nat → Int32) × (Nat → Int32)), f y0 y1 y2 lab cc ci od ta oe fp = some r → ∀ (H : Heap) (locs : List Loc) (ls : Array Slot), va_P D classes (wB a k lab sg cc ci od sd go ta we oe fp ro sp qr qs) H → va_D A (wB a k lab sg cc ci od sd go ta we oe fp ro sp qr qs) → va_S A s.heap H locs → lv_has ls 2 [] → W p l e (rm_B_tallyStates) s m args below meth c H locs 0 0 (MQ below (qc_B_tallyStates D A a k lab sg cc ci od sd go we ro sp qr qs r) args s 0 0 A) (F0 m 60 ls [.int y0, .int y1, .int y2, .ref (a 0)])
def H_B_tallyStates_44 (p : Program) (l : Launch) (e : Env) (s : State) (m : MethodId) (args : Array Value) (below : List Frame) (meth : Method) (c : Code) (D : va_G) (A : Nat → Prop) (a : Nat → Nat) (k : Nat → ClassId) (sg : Nat → Int32) (sd : Nat → Int32) (go : Nat → Int32) (we : Int32) (ro : Nat → Int64) (sp : Nat → Int64) (qr : Nat) (qs : Nat) (f : Int32 → (Nat → Int32) → Int32 → Int32 → (Nat → Int32) → (Nat → Int32) → (Nat → Int32) → (Nat → Int32) → Option ((Nat → Int32) × (Nat → Int32) × (Nat → Int32))) : Prop := ∀ (y0 : Int32) (lab : Nat → Int32) (cc : Int32) (ci : Int32) (od : Nat → Int32) (ta : Nat → Int32) (oe : Nat → Int32) (fp : Nat → Int32) (r : (Nat → Int32) × (Nat → Int32) × (Nat → Int32)), f y0 lab cc ci od ta oe fp = some r → ∀ (H : Heap) (locs : List Loc) (ls : Array Slot), va_P D classes (wB a k lab sg cc ci od sd go ta we oe fp ro sp qr qs) H → va_D A (wB a k lab sg cc ci od sd go ta we oe fp ro sp qr qs) → va_S A s.heap H locs → lv_has ls 2 [(0, .ref (a 0))] → W p l e (rm_B_tallyStates) s m args below meth c H locs 0 0 (MQ below (qc_B_tallyStates D A a k lab sg cc ci od sd go we ro sp qr qs r) args s 0 0 A) (F0 m 44 ls [.int y0])
def H_B_tallyStates_43 (p : Program) (l : Launch) (e : Env) (s : State) (m : MethodId) (args : Array Value) (below : List Frame) (meth : Method) (c : Code) (D : va_G) (A : Nat → Prop) (a : Nat → Nat) (k : Nat → ClassId) (sg : Nat → Int32) (sd : Nat → Int32) (go : Nat → Int32) (we : Int32) (ro : Nat → Int64) (sp : Nat → Int64) (qr : Nat) (qs : Nat) (f : (Nat → Int32) → Int32 → Int32 → (Nat → Int32) → (Nat → Int32) → (Nat → Int32) → (Nat → Int32) → Option ((Nat → Int32) × (Nat → Int32) × (Nat → Int32))) : Prop := ∀ (lab : Nat → Int32) (cc : Int32) (ci : Int32) (od : Nat → Int32) (ta : Nat → Int32) (oe : Nat → Int32) (fp : Nat → Int32) (r : (Nat → Int32) × (Nat → Int32) × (Nat → Int32)), f lab cc ci od ta oe fp = some r → ∀ (H : Heap) (locs : List Loc) (ls : Array Slot), va_P D classes (wB a k lab sg cc ci od sd go ta we oe fp ro sp qr qs) H → va_D A (wB a k lab sg cc ci od sd go ta we oe fp ro sp qr qs) → va_S A s.heap H locs → lv_has ls 2 [(0, .ref (a 0))] → W p l e (rm_B_tallyStates) s m args below meth c H locs 0 0 (MQ below (qc_B_tallyStates D A a k lab sg cc ci od sd go we ro sp qr qs r) args s 0 0 A) (F0 m 43 ls [])
def H_B_tallyStates_0 (p : Program) (l : Launch) (e : Env) (s : State) (m : MethodId) (args : Array Value) (below : List Frame) (meth : Method) (c : Code) (D : va_G) (A : Nat → Prop) (a : Nat → Nat) (k : Nat → ClassId) (sg : Nat → Int32) (sd : Nat → Int32) (go : Nat → Int32) (we : Int32) (ro : Nat → Int64) (sp : Nat → Int64) (qr : Nat) (qs : Nat) (f : (Nat → Int32) → Int32 → Int32 → (Nat → Int32) → (Nat → Int32) → (Nat → Int32) → (Nat → Int32) → Option ((Nat → Int32) × (Nat → Int32) × (Nat → Int32))) : Prop := ∀ (lab : Nat → Int32) (cc : Int32) (ci : Int32) (od : Nat → Int32) (ta : Nat → Int32) (oe : Nat → Int32) (fp : Nat → Int32) (r : (Nat → Int32) × (Nat → Int32) × (Nat → Int32)), f lab cc ci od ta oe fp = some r → ∀ (H : Heap) (locs : List Loc) (ls : Array Slot), va_P D classes (wB a k lab sg cc ci od sd go ta we oe fp ro sp qr qs) H → va_D A (wB a k lab sg cc ci od sd go ta we oe fp ro sp qr qs) → va_S A s.heap H locs → lv_has ls 2 [(0, .ref (a 0))] → W p l e (rm_B_tallyStates) s m args below meth c H locs 0 0 (MQ below (qc_B_tallyStates D A a k lab sg cc ci od sd go we ro sp qr qs r) args s 0 0 A) (F0 m 0 ls [])
set_option maxHeartbeats 4000000 in
set_option maxRecDepth 100000 in
theorem k_B_tallyStates_60 {p : Program} {l : Launch} {e : Env} {s : State} {m : MethodId} {args : Array Value} {below : List Frame} {meth : Method} {c : Code} {D : va_G} {A : Nat → Prop} {a : Nat → Nat} {k : Nat → ClassId} {sg : Nat → Int32} {sd : Nat → Int32} {go : Nat → Int32} {we : Int32} {ro : Nat → Int64} {sp : Nat → Int64} {qr : Nat} {qs : Nat} (C : cx D [(k 1, .int), (k 2, .int), (k 3, .int), (k 4, .int), (k 5, .boolean), (k 6, .int), (k 8, .int), (k 9, .int), (k 11, .long)] R_B b_B_tallyStates 2 none A p s m args meth c) : H_B_tallyStates_60 p l e s m args below meth c D A a k sg sd go we ro sp qr qs (J_B_tallyStates_60) := by
  obtain ⟨hx, hb, hr, hml, hown, ht, hlk, hA, hK⟩ := id C
  intro y0 y1 y2 lab cc ci od ta oe fp r h H locs ls hP hD hS hl
  unfold J_B_tallyStates_60 at h
  obtain ⟨v_1, e_1, h⟩ := bd_some h
  refine go_Sv (As := [.ref (a 0), .int y2, .int y1, .int y0]) (rest := []) (wc := (wB a k lab sg cc ci od sd go ta we oe fp ro sp qr qs)) (wr := []) (w1 := (wB a k lab sg cc ci od sd go v_1.1 we v_1.2 fp ro sp qr qs)) (w2 := (wB a k lab sg cc ci od sd go v_1.1 we v_1.2 fp ro sp qr qs)) (tc := [(k 1, .int), (k 2, .int), (k 3, .int), (k 4, .int), (k 5, .boolean), (k 6, .int), (k 8, .int), (k 9, .int), (k 11, .long)]) hx hb hml hown ht (c_B_tallyFrom l D a k 12 H.size y2 y1 y0 lab sg cc ci od sd go ta we oe fp ro sp qr qs v_1 e_1) g_B_158 ⟨rfl, rfl⟩ (n := 4) (by decide +kernel) ⟨(Nat.le_of_ble_eq_true rfl), (Nat.le_of_ble_eq_true rfl)⟩ hP hD hK hS hA ⟨Nat.zero_le _, Nat.zero_le _⟩ [0, 1, 2, 3, 4, 5, 6, 7, 8, 9, 10, 11, 12] [] [0, 1, 2, 3, 4, 5, 6, 7, 8] [0, 1, 2, 3, 4, 5, 6, 7, 8, 9, 10, 11, 12] rfl rfl rfl rfl (by decide) (by decide) (by decide) rfl (by decide) rfl rfl hl.1 (Nat.le_of_ble_eq_true rfl) d_B_tallyStates_60 (fun H locs hP hD hS => ?_)
  cases h
  exact W.vret hx hb hr (fun t ht hW => ⟨⟨(), rfl, trivial, by rw [ht]; exact hP, va_K.moved hW.alike hK, hD⟩, hS.F ht⟩) hS.2.2 d_B_tallyStates_63 hlk
set_option maxHeartbeats 4000000 in
set_option maxRecDepth 100000 in
theorem k_B_tallyStates_44 {p : Program} {l : Launch} {e : Env} {s : State} {m : MethodId} {args : Array Value} {below : List Frame} {meth : Method} {c : Code} {D : va_G} {A : Nat → Prop} {a : Nat → Nat} {k : Nat → ClassId} {sg : Nat → Int32} {sd : Nat → Int32} {go : Nat → Int32} {we : Int32} {ro : Nat → Int64} {sp : Nat → Int64} {qr : Nat} {qs : Nat} (C : cx D [(k 1, .int), (k 2, .int), (k 3, .int), (k 4, .int), (k 5, .boolean), (k 6, .int), (k 8, .int), (k 9, .int), (k 11, .long)] R_B b_B_tallyStates 2 none A p s m args meth c) : H_B_tallyStates_44 p l e s m args below meth c D A a k sg sd go we ro sp qr qs (J_B_tallyStates_44) := by
  obtain ⟨hx, hb, hr, hml, hown, ht, hlk, hA, hK⟩ := id C
  intro y0 lab cc ci od ta oe fp r h H locs ls hP hD hS hl
  unfold J_B_tallyStates_44 at h
  refine lv_istore_n (lv' := [(1, .int y0), (0, .ref (a 0))]) hx hb d_B_tallyStates_44 rfl hl (by decide) rfl (fun ls hl => ?_)
  refine lv_aload_n hx hb d_B_tallyStates_45 rfl (lv_at hl 1 rfl) ?_
  refine lv_iconst (v := 0) hx hb d_B_tallyStates_46 (by decide) ?_
  refine lv_iconst (v := 0) hx hb d_B_tallyStates_47 (by decide) ?_
  refine lv_iload_n hx hb d_B_tallyStates_48 rfl (lv_at hl 0 rfl) ?_
  refine lv_if_eq (tgt := 56) hx hb d_B_tallyStates_49 (by decide) (fun c_1 => ?_) (fun c_1 => ?_)
  · have h := ite_T c_1 h
    refine lv_aload_n hx hb d_B_tallyStates_56 rfl (lv_at hl 1 rfl) ?_
    refine va_get (D := D) (ci := 0) (v := .int ci) (C := R_B) (T := F_B) (N := 11) hx hb ht iC_B hown hK hP 0 rfl rfl 3 (by decide) (ht _ ix_54) (fun _ h9 => h9) rfl d_B_tallyStates_57 ?_
    exact (k_B_tallyStates_60 C) _ _ _ _ _ _ _ _ _ _ _ h _ _ _ hP hD hS (lv_sub hl [] rfl)
  · have h := ite_F c_1 h
    refine lv_iconst (v := 1) hx hb d_B_tallyStates_52 (by decide) ?_
    refine lv_goto (tgt := 60) hx hb d_B_tallyStates_53 (by decide) ?_
    exact (k_B_tallyStates_60 C) _ _ _ _ _ _ _ _ _ _ _ h _ _ _ hP hD hS (lv_sub hl [] rfl)
set_option maxHeartbeats 4000000 in
set_option maxRecDepth 100000 in
theorem k_B_tallyStates_43 {p : Program} {l : Launch} {e : Env} {s : State} {m : MethodId} {args : Array Value} {below : List Frame} {meth : Method} {c : Code} {D : va_G} {A : Nat → Prop} {a : Nat → Nat} {k : Nat → ClassId} {sg : Nat → Int32} {sd : Nat → Int32} {go : Nat → Int32} {we : Int32} {ro : Nat → Int64} {sp : Nat → Int64} {qr : Nat} {qs : Nat} (C : cx D [(k 1, .int), (k 2, .int), (k 3, .int), (k 4, .int), (k 5, .boolean), (k 6, .int), (k 8, .int), (k 9, .int), (k 11, .long)] R_B b_B_tallyStates 2 none A p s m args meth c) : H_B_tallyStates_43 p l e s m args below meth c D A a k sg sd go we ro sp qr qs (J_B_tallyStates_43) := by
  obtain ⟨hx, hb, hr, hml, hown, ht, hlk, hA, hK⟩ := id C
  intro lab cc ci od ta oe fp r h H locs ls hP hD hS hl
  unfold J_B_tallyStates_43 at h
  refine lv_iconst (v := 0) hx hb d_B_tallyStates_43 (by decide) ?_
  exact (k_B_tallyStates_44 C) _ _ _ _ _ _ _ _ _ h _ _ _ hP hD hS (lv_sub hl [0] rfl)
set_option maxHeartbeats 4000000 in
set_option maxRecDepth 100000 in
theorem k_B_tallyStates_0 {p : Program} {l : Launch} {e : Env} {s : State} {m : MethodId} {args : Array Value} {below : List Frame} {meth : Method} {c : Code} {D : va_G} {A : Nat → Prop} {a : Nat → Nat} {k : Nat → ClassId} {sg : Nat → Int32} {sd : Nat → Int32} {go : Nat → Int32} {we : Int32} {ro : Nat → Int64} {sp : Nat → Int64} {qr : Nat} {qs : Nat} (C : cx D [(k 1, .int), (k 2, .int), (k 3, .int), (k 4, .int), (k 5, .boolean), (k 6, .int), (k 8, .int), (k 9, .int), (k 11, .long)] R_B b_B_tallyStates 2 none A p s m args meth c) : H_B_tallyStates_0 p l e s m args below meth c D A a k sg sd go we ro sp qr qs (J_B_tallyStates_0) := by
  obtain ⟨hx, hb, hr, hml, hown, ht, hlk, hA, hK⟩ := id C
  intro lab cc ci od ta oe fp r h H locs ls hP hD hS hl
  unfold J_B_tallyStates_0 at h
  refine lv_aload_n hx hb d_B_tallyStates_0 rfl (lv_at hl 0 rfl) ?_
  refine va_get (D := D) (ci := 0) (v := .ref (a 6)) (C := R_B) (T := F_B) (N := 11) hx hb ht iC_B hown hK hP 0 rfl rfl 7 (by decide) (ht _ ix_83) (fun _ h9 => h9) rfl d_B_tallyStates_1 ?_
  refine lv_iconst (v := 0) hx hb d_B_tallyStates_4 (by decide) ?_
  refine go_Sv (As := [.ref (a 6), .int (0 : Int32)]) (rest := []) (wc := [((a 6), .inl (k 6, 330, .inl ta))]) (wr := [((a 0), .inr (0, [.ref (a 1), .ref (a 2), .int cc, .int ci, .ref (a 3), .ref (a 4), .ref (a 5), .ref (a 6), .ref (a 7), .ref (a 10), .int we])), ((a 1), .inl (k 1, 40, .inl lab)), ((a 2), .inl (k 2, 10, .inl sg)), ((a 3), .inl (k 3, 10, .inl od)), ((a 4), .inl (k 4, 100, .inl sd)), ((a 5), .inl (k 5, 10, .inl go)), ((a 7), .inr (1, [.ref (a 8), .ref (a 9)])), ((a 8), .inl (k 8, 40, .inl oe)), ((a 9), .inl (k 9, 100, .inl fp)), ((a 10), .inr (2, [.ref qr, .ref qs])), (qr, .inl (k 11, 133, .inr (.inl ro))), (qs, .inl (k 11, 133, .inr (.inl sp)))]) (w1 := [((a 6), .inl (k 6, 330, .inl (fun _ => (0 : Int32))))]) (w2 := (wB a k lab sg cc ci od sd go (fun _ => (0 : Int32)) we oe fp ro sp qr qs)) (tc := [(k 6, .int)]) hx hb hml hown ht (c_fillI l D (a 6) (k 6) 330 H.size ta (0 : Int32) (by decide)) g_B_134 ⟨rfl, rfl⟩ (n := 2) (by decide +kernel) ⟨(Nat.le_of_ble_eq_true rfl), (Nat.le_of_ble_eq_true rfl)⟩ hP hD hK hS hA ⟨Nat.zero_le _, Nat.zero_le _⟩ [6] [0, 1, 2, 3, 4, 5, 7, 8, 9, 10, 11, 12] [5] [0, 1, 2, 3, 4, 5, 12, 6, 7, 8, 9, 10, 11] rfl rfl rfl rfl (by decide) (by decide) (by decide) rfl (by decide) rfl rfl hl.1 (Nat.le_of_ble_eq_true rfl) d_B_tallyStates_5 (fun H locs hP hD hS => ?_)
  refine lv_aload_n hx hb d_B_tallyStates_8 rfl (lv_at hl 0 rfl) ?_
  refine va_get (D := D) (ci := 0) (v := .ref (a 7)) (C := R_B) (T := F_B) (N := 11) hx hb ht iC_B hown hK hP 0 rfl rfl 8 (by decide) (ht _ ix_71) (fun _ h9 => h9) rfl d_B_tallyStates_9 ?_
  refine lv_aload_n hx hb d_B_tallyStates_12 rfl (lv_at hl 0 rfl) ?_
  refine va_get (D := D) (ci := 0) (v := .ref (a 1)) (C := R_B) (T := F_B) (N := 11) hx hb ht iC_B hown hK hP 0 rfl rfl 0 (by decide) (ht _ ix_43) (fun _ h9 => h9) rfl d_B_tallyStates_13 ?_
  refine lv_iconst (v := 4) hx hb d_B_tallyStates_16 (by decide) ?_
  refine lv_aload_n hx hb d_B_tallyStates_17 rfl (lv_at hl 0 rfl) ?_
  refine va_get (D := D) (ci := 0) (v := .int cc) (C := R_B) (T := F_B) (N := 11) hx hb ht iC_B hown hK hP 0 rfl rfl 2 (by decide) (ht _ ix_38) (fun _ h9 => h9) rfl d_B_tallyStates_18 ?_
  refine lv_imul hx hb d_B_tallyStates_21 ?_
  obtain ⟨v_1, e_1, h⟩ := bd_some h
  refine go_Vv (As := [.ref (a 1), .int ((4 : Int32) * cc)]) (rest := []) (wc := (wL a k oe fp lab)) (wr := [((a 0), .inr (0, [.ref (a 1), .ref (a 2), .int cc, .int ci, .ref (a 3), .ref (a 4), .ref (a 5), .ref (a 6), .ref (a 7), .ref (a 10), .int we])), ((a 2), .inl (k 2, 10, .inl sg)), ((a 3), .inl (k 3, 10, .inl od)), ((a 4), .inl (k 4, 100, .inl sd)), ((a 5), .inl (k 5, 10, .inl go)), ((a 6), .inl (k 6, 330, .inl (fun _ => (0 : Int32)))), ((a 10), .inr (2, [.ref qr, .ref qs])), (qr, .inl (k 11, 133, .inr (.inl ro))), (qs, .inl (k 11, 133, .inr (.inl sp)))]) (w1 := (wL a k v_1.1 v_1.2 lab)) (w2 := (wB a k lab sg cc ci od sd go (fun _ => (0 : Int32)) we v_1.1 v_1.2 ro sp qr qs)) (tc := [(k 8, .int), (k 9, .int), (k 1, .int)]) hx hb hml hown ht (c_W_followLabels l D a k H.size ((4 : Int32) * cc) oe fp lab v_1 e_1) g_B_109 ⟨rfl, rfl⟩ (n := 2) (by decide +kernel) ⟨(Nat.le_of_ble_eq_true rfl), (Nat.le_of_ble_eq_true rfl)⟩ hP hD hK hS hA ⟨Nat.zero_le _, Nat.zero_le _⟩ [7, 8, 9, 1] [0, 2, 3, 4, 5, 6, 10, 11, 12] [6, 7, 0] [0, 12, 1, 2, 3, 4, 5, 9, 10, 11, 6, 7, 8] rfl rfl rfl rfl (by decide) (by decide) (by decide) rfl (by decide) 0 rfl rfl rfl rfl rfl hl.1 (Nat.le_of_ble_eq_true rfl) d_B_tallyStates_22 (fun H locs hP hD hS => ?_)
  refine lv_aload_n hx hb d_B_tallyStates_25 rfl (lv_at hl 0 rfl) ?_
  refine va_get (D := D) (ci := 0) (v := .int cc) (C := R_B) (T := F_B) (N := 11) hx hb ht iC_B hown hK hP 0 rfl rfl 2 (by decide) (ht _ ix_38) (fun _ h9 => h9) rfl d_B_tallyStates_26 ?_
  refine lv_if_ne (tgt := 43) hx hb d_B_tallyStates_29 (by decide) (fun c_2 => ?_) (fun c_2 => ?_)
  · have h := ite_F c_2 h
    exact (k_B_tallyStates_43 C) _ _ _ _ _ _ _ _ h _ _ _ hP hD hS (lv_sub hl [0] rfl)
  · have h := ite_T c_2 h
    refine lv_aload_n hx hb d_B_tallyStates_32 rfl (lv_at hl 0 rfl) ?_
    refine va_get (D := D) (ci := 0) (v := .int ci) (C := R_B) (T := F_B) (N := 11) hx hb ht iC_B hown hK hP 0 rfl rfl 3 (by decide) (ht _ ix_54) (fun _ h9 => h9) rfl d_B_tallyStates_33 ?_
    refine lv_if_ne (tgt := 43) hx hb d_B_tallyStates_36 (by decide) (fun c_3 => ?_) (fun c_3 => ?_)
    · have h := ite_F c_3 h
      exact (k_B_tallyStates_43 C) _ _ _ _ _ _ _ _ h _ _ _ hP hD hS (lv_sub hl [0] rfl)
    · have h := ite_T c_3 h
      refine lv_iconst (v := 1) hx hb d_B_tallyStates_39 (by decide) ?_
      refine lv_goto (tgt := 44) hx hb d_B_tallyStates_40 (by decide) ?_
      exact (k_B_tallyStates_44 C) _ _ _ _ _ _ _ _ _ h _ _ _ hP hD hS (lv_sub hl [0] rfl)
set_option maxRecDepth 20000 in
theorem c_B_tallyStates (l : Launch) (D : va_G) (a : Nat → Nat) (k : Nat → ClassId) (sz : Nat) (lab : Nat → Int32) (sg : Nat → Int32) (cc : Int32) (ci : Int32) (od : Nat → Int32) (sd : Nat → Int32) (go : Nat → Int32) (ta : Nat → Int32) (we : Int32) (oe : Nat → Int32) (fp : Nat → Int32) (ro : Nat → Int64) (sp : Nat → Int64) (qr : Nat) (qs : Nat) (r : (Nat → Int32) × (Nat → Int32) × (Nat → Int32)) (h : F_B_tallyStates lab cc ci od ta oe fp = some r) : Met l y_B_tallyStates (Cond.code y_B_tallyStates b_B_tallyStates 2 none :: lw_g) (rm_B_tallyStates) (va_Pc [.ref (a 0)] (pcW D [(k 1, .int), (k 2, .int), (k 3, .int), (k 4, .int), (k 5, .boolean), (k 6, .int), (k 8, .int), (k 9, .int), (k 11, .long)] (wB a k lab sg cc ci od sd go ta we oe fp ro sp qr qs) sz)) (qc_B_tallyStates D (va_A (wB a k lab sg cc ci od sd go ta we oe fp ro sp qr qs) sz) a k lab sg cc ci od sd go we ro sp qr qs r) 0 0 (va_A (wB a k lab sg cc ci od sd go ta we oe fp ro sp qr qs) sz) := by
  refine Met.ofW (cc := b_B_tallyStates) (maxL := 2) (ret := none) (by decide) rfl ?_
  intro p e s m args below meth c s₁ B hml hv
  obtain ⟨rfl, hsz, hP, hK, hD0⟩ := hv
  have hts := atoms_spec (ws := Cond.code y_B_tallyStates b_B_tallyStates 2 none :: lw_g) B.pre
  subst hsz
  have hD := hD0.self (sz := s.heap.size)
  have hl := lv_entry ([.ref (a 0)]) (n := 2) (Nat.le_of_ble_eq_true rfl)
  rw [lg_entry_eq]
  generalize (lg_sl ([.ref (a 0)]) ++ List.replicate (2 - (lg_sl ([.ref (a 0)])).length) Slot.unset).toArray = ls at hl ⊢
  exact k_B_tallyStates_0 ⟨B.exec, B.bytes, B.returns, hml, findClass_of_methodNamed B.named, fun w hw => hts w (List.mem_cons_of_mem _ hw), B.notSynchronized, fun q h => Or.inr h, hK⟩ _ _ _ _ _ _ _ _ h _ _ _ hP hD va_S.rf hl

def rm_B_sumTally : Room := { frames := 2, cells := 0, slots := 0, locals := 43 }
def qc_B_sumTally (D : va_G) (A : Nat → Prop) (a : Nat → Nat) (k : Nat → ClassId) (lab : Nat → Int32) (sg : Nat → Int32) (cc : Int32) (ci : Int32) (od : Nat → Int32) (sd : Nat → Int32) (go : Nat → Int32) (ta : Nat → Int32) (we : Int32) (oe : Nat → Int32) (fp : Nat → Int32) (r : (Nat → Int64) × (Nat → Int64) × Nat × Nat) : Array Value → State → Outcome → State → Prop := va_Qv (fun (_ : Unit) => True) (poW D [(k 1, .int), (k 2, .int), (k 3, .int), (k 4, .int), (k 5, .boolean), (k 6, .int), (k 8, .int), (k 9, .int), (k 11, .long)] (wB a k lab sg cc ci od sd go ta we oe fp r.1 r.2.1 r.2.2.1 r.2.2.2) A) A
def J_B_sumTally_27 (rec3 : Int32 → Int32 → (Nat → Int32) → (Nat → Int64) → (Nat → Int64) → Nat → Nat → Option ((Nat → Int64) × (Nat → Int64) × Nat × Nat)) (rec27 : Int32 → Int32 → Int32 → (Nat → Int32) → (Nat → Int64) → (Nat → Int64) → Nat → Nat → Option ((Nat → Int64) × (Nat → Int64) × Nat × Nat)) (x1 : Int32) (x2 : Int32) (cc : Int32) (ta : Nat → Int32) (ro : Nat → Int64) (sp : Nat → Int64) (qr : Nat) (qs : Nat) : Option ((Nat → Int64) × (Nat → Int64) × Nat × Nat) :=
  (if cc < x2 then rec3 (x1 + (-1)) cc ta ro sp qr qs else (if inb ((x2 * (30 : Int32)) + x1) 330 then (Option.bind (F_P_add (((2 : Int32) * x2) - cc) (((ta ((x2 * (30 : Int32)) + x1).toNatClampNeg)).toInt64) ro) (fun v_3 => rec27 x1 (x2 + 1) cc ta v_3 sp qr qs)) else none))
def L_B_sumTally_27 (rec3 : Int32 → Int32 → (Nat → Int32) → (Nat → Int64) → (Nat → Int64) → Nat → Nat → Option ((Nat → Int64) × (Nat → Int64) × Nat × Nat)) : Nat → Int32 → Int32 → Int32 → (Nat → Int32) → (Nat → Int64) → (Nat → Int64) → Nat → Nat → Option ((Nat → Int64) × (Nat → Int64) × Nat × Nat)
  | 0 => fun _ _ _ _ _ _ _ _ => none
  | n + 1 => J_B_sumTally_27 rec3 (L_B_sumTally_27 rec3 n)
def J_B_sumTally_3 (rec3 : Int32 → Int32 → (Nat → Int32) → (Nat → Int64) → (Nat → Int64) → Nat → Nat → Option ((Nat → Int64) × (Nat → Int64) × Nat × Nat)) (x1 : Int32) (cc : Int32) (ta : Nat → Int32) (ro : Nat → Int64) (sp : Nat → Int64) (qr : Nat) (qs : Nat) : Option ((Nat → Int64) × (Nat → Int64) × Nat × Nat) :=
  (if x1 < (1 : Int32) then some (ro, sp, qr, qs) else (Option.bind (F_P_isZero ro) (fun v_2 => (if v_2 = 0 then (Option.bind (F_P_timesD ro sp qr qs) (fun v_4 => L_B_sumTally_27 rec3 fu x1 (0 : Int32) cc ta v_4.1 v_4.2.1 v_4.2.2.1 v_4.2.2.2)) else L_B_sumTally_27 rec3 fu x1 (0 : Int32) cc ta ro sp qr qs))))
def L_B_sumTally_3 : Nat → Int32 → Int32 → (Nat → Int32) → (Nat → Int64) → (Nat → Int64) → Nat → Nat → Option ((Nat → Int64) × (Nat → Int64) × Nat × Nat)
  | 0 => fun _ _ _ _ _ _ _ => none
  | n + 1 => J_B_sumTally_3 (L_B_sumTally_3 n)
def J_B_sumTally_0 (cc : Int32) (ta : Nat → Int32) (ro : Nat → Int64) (sp : Nat → Int64) (qr : Nat) (qs : Nat) : Option ((Nat → Int64) × (Nat → Int64) × Nat × Nat) :=
  L_B_sumTally_3 fu (29 : Int32) cc ta ro sp qr qs
def F_B_sumTally (cc : Int32) (ta : Nat → Int32) (ro : Nat → Int64) (sp : Nat → Int64) (qr : Nat) (qs : Nat) : Option ((Nat → Int64) × (Nat → Int64) × Nat × Nat) := J_B_sumTally_0 cc ta ro sp qr qs
def H_B_sumTally_27 (p : Program) (l : Launch) (e : Env) (s : State) (m : MethodId) (args : Array Value) (below : List Frame) (meth : Method) (c : Code) (D : va_G) (A : Nat → Prop) (a : Nat → Nat) (k : Nat → ClassId) (lab : Nat → Int32) (sg : Nat → Int32) (ci : Int32) (od : Nat → Int32) (sd : Nat → Int32) (go : Nat → Int32) (we : Int32) (oe : Nat → Int32) (fp : Nat → Int32) (f : Int32 → Int32 → Int32 → (Nat → Int32) → (Nat → Int64) → (Nat → Int64) → Nat → Nat → Option ((Nat → Int64) × (Nat → Int64) × Nat × Nat)) : Prop := ∀ (x1 : Int32) (x2 : Int32) (cc : Int32) (ta : Nat → Int32) (ro : Nat → Int64) (sp : Nat → Int64) (qr : Nat) (qs : Nat) (r : (Nat → Int64) × (Nat → Int64) × Nat × Nat), f x1 x2 cc ta ro sp qr qs = some r → ∀ (H : Heap) (locs : List Loc) (ls : Array Slot), va_P D classes (wB a k lab sg cc ci od sd go ta we oe fp ro sp qr qs) H → va_D A (wB a k lab sg cc ci od sd go ta we oe fp ro sp qr qs) → va_S A s.heap H locs → lv_has ls 3 [(0, .ref (a 0)), (1, .int x1), (2, .int x2)] → W p l e (rm_B_sumTally) s m args below meth c H locs 0 0 (MQ below (qc_B_sumTally D A a k lab sg cc ci od sd go ta we oe fp r) args s 0 0 A) (F0 m 27 ls [])
def H_B_sumTally_3 (p : Program) (l : Launch) (e : Env) (s : State) (m : MethodId) (args : Array Value) (below : List Frame) (meth : Method) (c : Code) (D : va_G) (A : Nat → Prop) (a : Nat → Nat) (k : Nat → ClassId) (lab : Nat → Int32) (sg : Nat → Int32) (ci : Int32) (od : Nat → Int32) (sd : Nat → Int32) (go : Nat → Int32) (we : Int32) (oe : Nat → Int32) (fp : Nat → Int32) (f : Int32 → Int32 → (Nat → Int32) → (Nat → Int64) → (Nat → Int64) → Nat → Nat → Option ((Nat → Int64) × (Nat → Int64) × Nat × Nat)) : Prop := ∀ (x1 : Int32) (cc : Int32) (ta : Nat → Int32) (ro : Nat → Int64) (sp : Nat → Int64) (qr : Nat) (qs : Nat) (r : (Nat → Int64) × (Nat → Int64) × Nat × Nat), f x1 cc ta ro sp qr qs = some r → ∀ (H : Heap) (locs : List Loc) (ls : Array Slot), va_P D classes (wB a k lab sg cc ci od sd go ta we oe fp ro sp qr qs) H → va_D A (wB a k lab sg cc ci od sd go ta we oe fp ro sp qr qs) → va_S A s.heap H locs → lv_has ls 3 [(0, .ref (a 0)), (1, .int x1)] → W p l e (rm_B_sumTally) s m args below meth c H locs 0 0 (MQ below (qc_B_sumTally D A a k lab sg cc ci od sd go ta we oe fp r) args s 0 0 A) (F0 m 3 ls [])
def H_B_sumTally_0 (p : Program) (l : Launch) (e : Env) (s : State) (m : MethodId) (args : Array Value) (below : List Frame) (meth : Method) (c : Code) (D : va_G) (A : Nat → Prop) (a : Nat → Nat) (k : Nat → ClassId) (lab : Nat → Int32) (sg : Nat → Int32) (ci : Int32) (od : Nat → Int32) (sd : Nat → Int32) (go : Nat → Int32) (we : Int32) (oe : Nat → Int32) (fp : Nat → Int32) (f : Int32 → (Nat → Int32) → (Nat → Int64) → (Nat → Int64) → Nat → Nat → Option ((Nat → Int64) × (Nat → Int64) × Nat × Nat)) : Prop := ∀ (cc : Int32) (ta : Nat → Int32) (ro : Nat → Int64) (sp : Nat → Int64) (qr : Nat) (qs : Nat) (r : (Nat → Int64) × (Nat → Int64) × Nat × Nat), f cc ta ro sp qr qs = some r → ∀ (H : Heap) (locs : List Loc) (ls : Array Slot), va_P D classes (wB a k lab sg cc ci od sd go ta we oe fp ro sp qr qs) H → va_D A (wB a k lab sg cc ci od sd go ta we oe fp ro sp qr qs) → va_S A s.heap H locs → lv_has ls 3 [(0, .ref (a 0))] → W p l e (rm_B_sumTally) s m args below meth c H locs 0 0 (MQ below (qc_B_sumTally D A a k lab sg cc ci od sd go ta we oe fp r) args s 0 0 A) (F0 m 0 ls [])
set_option maxHeartbeats 4000000 in
set_option maxRecDepth 100000 in
theorem k_B_sumTally_27 {p : Program} {l : Launch} {e : Env} {s : State} {m : MethodId} {args : Array Value} {below : List Frame} {meth : Method} {c : Code} {D : va_G} {A : Nat → Prop} {a : Nat → Nat} {k : Nat → ClassId} {lab : Nat → Int32} {sg : Nat → Int32} {ci : Int32} {od : Nat → Int32} {sd : Nat → Int32} {go : Nat → Int32} {we : Int32} {oe : Nat → Int32} {fp : Nat → Int32} {rec3 : Int32 → Int32 → (Nat → Int32) → (Nat → Int64) → (Nat → Int64) → Nat → Nat → Option ((Nat → Int64) × (Nat → Int64) × Nat × Nat)} {rec27 : Int32 → Int32 → Int32 → (Nat → Int32) → (Nat → Int64) → (Nat → Int64) → Nat → Nat → Option ((Nat → Int64) × (Nat → Int64) × Nat × Nat)} (C : cx D [(k 1, .int), (k 2, .int), (k 3, .int), (k 4, .int), (k 5, .boolean), (k 6, .int), (k 8, .int), (k 9, .int), (k 11, .long)] R_B b_B_sumTally 3 none A p s m args meth c) (hrec3 : H_B_sumTally_3 p l e s m args below meth c D A a k lab sg ci od sd go we oe fp rec3) (hrec27 : H_B_sumTally_27 p l e s m args below meth c D A a k lab sg ci od sd go we oe fp rec27) : H_B_sumTally_27 p l e s m args below meth c D A a k lab sg ci od sd go we oe fp (J_B_sumTally_27 rec3 rec27) := by
  obtain ⟨hx, hb, hr, hml, hown, ht, hlk, hA, hK⟩ := id C
  intro x1 x2 cc ta ro sp qr qs r h H locs ls hP hD hS hl
  unfold J_B_sumTally_27 at h
  refine lv_iload_n hx hb d_B_sumTally_27 rfl (lv_at hl 2 rfl) ?_
  refine lv_aload_n hx hb d_B_sumTally_28 rfl (lv_at hl 0 rfl) ?_
  refine va_get (D := D) (ci := 0) (v := .int cc) (C := R_B) (T := F_B) (N := 11) hx hb ht iC_B hown hK hP 0 rfl rfl 2 (by decide) (ht _ ix_38) (fun _ h9 => h9) rfl d_B_sumTally_29 ?_
  refine lv_icmp_gt (tgt := 68) hx hb d_B_sumTally_32 (by decide) (fun c_1 => ?_) (fun c_1 => ?_)
  · have h := ite_T c_1 h
    refine lv_iinc (v := x1 + (-1)) (lv' := [(1, .int (x1 + (-1))), (0, .ref (a 0)), (2, .int x2)]) hx hb d_B_sumTally_68 hl (k := 1) rfl rfl (by decide) rfl (fun ls hl => ?_)
    refine lv_goto (tgt := 3) hx hb d_B_sumTally_71 (by decide) ?_
    exact hrec3 _ _ _ _ _ _ _ _ h _ _ _ hP hD hS (lv_sub hl [1, 0] rfl)
  · have h := ite_F c_1 h
    refine lv_aload_n hx hb d_B_sumTally_35 rfl (lv_at hl 0 rfl) ?_
    refine va_get (D := D) (ci := 0) (v := .ref (a 10)) (C := R_B) (T := F_B) (N := 11) hx hb ht iC_B hown hK hP 0 rfl rfl 9 (by decide) (ht _ ix_88) (fun _ h9 => h9) rfl d_B_sumTally_36 ?_
    refine lv_iconst (v := 2) hx hb d_B_sumTally_39 (by decide) ?_
    refine lv_iload_n hx hb d_B_sumTally_40 rfl (lv_at hl 2 rfl) ?_
    refine lv_imul hx hb d_B_sumTally_41 ?_
    refine lv_aload_n hx hb d_B_sumTally_42 rfl (lv_at hl 0 rfl) ?_
    refine va_get (D := D) (ci := 0) (v := .int cc) (C := R_B) (T := F_B) (N := 11) hx hb ht iC_B hown hK hP 0 rfl rfl 2 (by decide) (ht _ ix_38) (fun _ h9 => h9) rfl d_B_sumTally_43 ?_
    refine lv_isub hx hb d_B_sumTally_46 ?_
    refine lv_aload_n hx hb d_B_sumTally_47 rfl (lv_at hl 0 rfl) ?_
    refine va_get (D := D) (ci := 0) (v := .ref (a 6)) (C := R_B) (T := F_B) (N := 11) hx hb ht iC_B hown hK hP 0 rfl rfl 7 (by decide) (ht _ ix_83) (fun _ h9 => h9) rfl d_B_sumTally_48 ?_
    refine lv_iload_n hx hb d_B_sumTally_51 rfl (lv_at hl 2 rfl) ?_
    refine lv_bipush (v := 30) hx hb d_B_sumTally_52 (by decide) ?_
    refine lv_imul hx hb d_B_sumTally_54 ?_
    refine lv_iload_n hx hb d_B_sumTally_55 rfl (lv_at hl 1 rfl) ?_
    refine lv_iadd hx hb d_B_sumTally_56 ?_
    obtain ⟨g_2, h⟩ := gd_some h
    refine va_iald hx hb hK hP 6 5 rfl rfl (inb_in g_2) d_B_sumTally_57 ?_
    refine lv_i2l (v := ((ta ((x2 * (30 : Int32)) + x1).toNatClampNeg)).toInt64) hx hb d_B_sumTally_58 rfl ?_
    obtain ⟨v_3, e_3, h⟩ := bd_some h
    refine go_Vv (As := [.int (((2 : Int32) * x2) - cc), .long (((ta ((x2 * (30 : Int32)) + x1).toNatClampNeg)).toInt64)]) (rest := []) (wc := (wP a k ro sp qr qs)) (wr := [((a 0), .inr (0, [.ref (a 1), .ref (a 2), .int cc, .int ci, .ref (a 3), .ref (a 4), .ref (a 5), .ref (a 6), .ref (a 7), .ref (a 10), .int we])), ((a 1), .inl (k 1, 40, .inl lab)), ((a 2), .inl (k 2, 10, .inl sg)), ((a 3), .inl (k 3, 10, .inl od)), ((a 4), .inl (k 4, 100, .inl sd)), ((a 5), .inl (k 5, 10, .inl go)), ((a 6), .inl (k 6, 330, .inl ta)), ((a 7), .inr (1, [.ref (a 8), .ref (a 9)])), ((a 8), .inl (k 8, 40, .inl oe)), ((a 9), .inl (k 9, 100, .inl fp))]) (w1 := (wP a k v_3 sp qr qs)) (w2 := (wB a k lab sg cc ci od sd go ta we oe fp v_3 sp qr qs)) (tc := [(k 11, .long)]) hx hb hml hown ht (c_P_add l D a k H.size (((2 : Int32) * x2) - cc) (((ta ((x2 * (30 : Int32)) + x1).toNatClampNeg)).toInt64) ro sp qr qs v_3 e_3) g_B_169 ⟨rfl, rfl⟩ (n := 2) (by decide +kernel) ⟨(Nat.le_of_ble_eq_true rfl), (Nat.le_of_ble_eq_true rfl)⟩ hP hD hK hS hA ⟨Nat.zero_le _, Nat.zero_le _⟩ [10, 11, 12] [0, 1, 2, 3, 4, 5, 6, 7, 8, 9] [8] [0, 1, 2, 3, 4, 5, 6, 7, 8, 9, 10, 11, 12] rfl rfl rfl rfl (by decide) (by decide) (by decide) rfl (by decide) 0 rfl rfl rfl rfl rfl hl.1 (Nat.le_of_ble_eq_true rfl) d_B_sumTally_59 (fun H locs hP hD hS => ?_)
    refine lv_iinc (v := x2 + 1) (lv' := [(2, .int (x2 + 1)), (0, .ref (a 0)), (1, .int x1)]) hx hb d_B_sumTally_62 hl (k := 2) rfl rfl (by decide) rfl (fun ls hl => ?_)
    refine lv_goto (tgt := 27) hx hb d_B_sumTally_65 (by decide) ?_
    exact hrec27 _ _ _ _ _ _ _ _ _ h _ _ _ hP hD hS (lv_sub hl [1, 2, 0] rfl)
theorem k_B_sumTally_27_L {p : Program} {l : Launch} {e : Env} {s : State} {m : MethodId} {args : Array Value} {below : List Frame} {meth : Method} {c : Code} {D : va_G} {A : Nat → Prop} {a : Nat → Nat} {k : Nat → ClassId} {lab : Nat → Int32} {sg : Nat → Int32} {ci : Int32} {od : Nat → Int32} {sd : Nat → Int32} {go : Nat → Int32} {we : Int32} {oe : Nat → Int32} {fp : Nat → Int32} {rec3 : Int32 → Int32 → (Nat → Int32) → (Nat → Int64) → (Nat → Int64) → Nat → Nat → Option ((Nat → Int64) × (Nat → Int64) × Nat × Nat)} (C : cx D [(k 1, .int), (k 2, .int), (k 3, .int), (k 4, .int), (k 5, .boolean), (k 6, .int), (k 8, .int), (k 9, .int), (k 11, .long)] R_B b_B_sumTally 3 none A p s m args meth c) (hrec3 : H_B_sumTally_3 p l e s m args below meth c D A a k lab sg ci od sd go we oe fp rec3) : ∀ n : Nat, H_B_sumTally_27 p l e s m args below meth c D A a k lab sg ci od sd go we oe fp (L_B_sumTally_27 rec3 n)
  | 0 => fun _ _ _ _ _ _ _ _ _ h => nomatch h
  | n + 1 => k_B_sumTally_27 C hrec3 (k_B_sumTally_27_L C hrec3 n)
set_option maxHeartbeats 4000000 in
set_option maxRecDepth 100000 in
theorem k_B_sumTally_3 {p : Program} {l : Launch} {e : Env} {s : State} {m : MethodId} {args : Array Value} {below : List Frame} {meth : Method} {c : Code} {D : va_G} {A : Nat → Prop} {a : Nat → Nat} {k : Nat → ClassId} {lab : Nat → Int32} {sg : Nat → Int32} {ci : Int32} {od : Nat → Int32} {sd : Nat → Int32} {go : Nat → Int32} {we : Int32} {oe : Nat → Int32} {fp : Nat → Int32} {rec3 : Int32 → Int32 → (Nat → Int32) → (Nat → Int64) → (Nat → Int64) → Nat → Nat → Option ((Nat → Int64) × (Nat → Int64) × Nat × Nat)} (C : cx D [(k 1, .int), (k 2, .int), (k 3, .int), (k 4, .int), (k 5, .boolean), (k 6, .int), (k 8, .int), (k 9, .int), (k 11, .long)] R_B b_B_sumTally 3 none A p s m args meth c) (hrec3 : H_B_sumTally_3 p l e s m args below meth c D A a k lab sg ci od sd go we oe fp rec3) : H_B_sumTally_3 p l e s m args below meth c D A a k lab sg ci od sd go we oe fp (J_B_sumTally_3 rec3) := by
  obtain ⟨hx, hb, hr, hml, hown, ht, hlk, hA, hK⟩ := id C
  intro x1 cc ta ro sp qr qs r h H locs ls hP hD hS hl
  unfold J_B_sumTally_3 at h
  refine lv_iload_n hx hb d_B_sumTally_3 rfl (lv_at hl 1 rfl) ?_
  refine lv_iconst (v := 1) hx hb d_B_sumTally_4 (by decide) ?_
  refine lv_icmp_lt (tgt := 74) hx hb d_B_sumTally_5 (by decide) (fun c_1 => ?_) (fun c_1 => ?_)
  · have h := ite_T c_1 h
    cases h
    exact W.vret hx hb hr (fun t ht hW => ⟨⟨(), rfl, trivial, by rw [ht]; exact hP, va_K.moved hW.alike hK, hD⟩, hS.F ht⟩) hS.2.2 d_B_sumTally_74 hlk
  · have h := ite_F c_1 h
    refine lv_aload_n hx hb d_B_sumTally_8 rfl (lv_at hl 0 rfl) ?_
    refine va_get (D := D) (ci := 0) (v := .ref (a 10)) (C := R_B) (T := F_B) (N := 11) hx hb ht iC_B hown hK hP 0 rfl rfl 9 (by decide) (ht _ ix_88) (fun _ h9 => h9) rfl d_B_sumTally_9 ?_
    obtain ⟨v_2, e_2, h⟩ := bd_some h
    refine go_Vi (r := v_2) (As := []) (rest := []) (wc := (wP a k ro sp qr qs)) (wr := [((a 0), .inr (0, [.ref (a 1), .ref (a 2), .int cc, .int ci, .ref (a 3), .ref (a 4), .ref (a 5), .ref (a 6), .ref (a 7), .ref (a 10), .int we])), ((a 1), .inl (k 1, 40, .inl lab)), ((a 2), .inl (k 2, 10, .inl sg)), ((a 3), .inl (k 3, 10, .inl od)), ((a 4), .inl (k 4, 100, .inl sd)), ((a 5), .inl (k 5, 10, .inl go)), ((a 6), .inl (k 6, 330, .inl ta)), ((a 7), .inr (1, [.ref (a 8), .ref (a 9)])), ((a 8), .inl (k 8, 40, .inl oe)), ((a 9), .inl (k 9, 100, .inl fp))]) (w1 := (wP a k ro sp qr qs)) (w2 := (wB a k lab sg cc ci od sd go ta we oe fp ro sp qr qs)) (tc := [(k 11, .long)]) hx hb hml hown ht (c_P_isZero l D a k H.size ro sp qr qs v_2 e_2) g_B_100 ⟨rfl, rfl⟩ (n := 0) (by decide +kernel) ⟨(Nat.le_of_ble_eq_true rfl), (Nat.le_of_ble_eq_true rfl)⟩ hP hD hK hS hA ⟨Nat.zero_le _, Nat.zero_le _⟩ [10, 11, 12] [0, 1, 2, 3, 4, 5, 6, 7, 8, 9] [8] [0, 1, 2, 3, 4, 5, 6, 7, 8, 9, 10, 11, 12] rfl rfl rfl rfl (by decide) (by decide) (by decide) rfl (by decide) 0 rfl rfl rfl rfl rfl hl.1 (Nat.le_of_ble_eq_true rfl) d_B_sumTally_12 (fun H locs hP hD hS => ?_)
    refine lv_if_ne (tgt := 25) hx hb d_B_sumTally_15 (by decide) (fun c_3 => ?_) (fun c_3 => ?_)
    · have h := ite_F c_3 h
      refine lv_iconst (v := 0) hx hb d_B_sumTally_25 (by decide) ?_
      refine lv_istore_n (lv' := [(2, .int (0 : Int32)), (0, .ref (a 0)), (1, .int x1)]) hx hb d_B_sumTally_26 rfl hl (by decide) rfl (fun ls hl => ?_)
      exact (k_B_sumTally_27_L C hrec3 fu) _ _ _ _ _ _ _ _ _ h _ _ _ hP hD hS (lv_sub hl [1, 2, 0] rfl)
    · have h := ite_T c_3 h
      refine lv_aload_n hx hb d_B_sumTally_18 rfl (lv_at hl 0 rfl) ?_
      refine va_get (D := D) (ci := 0) (v := .ref (a 10)) (C := R_B) (T := F_B) (N := 11) hx hb ht iC_B hown hK hP 0 rfl rfl 9 (by decide) (ht _ ix_88) (fun _ h9 => h9) rfl d_B_sumTally_19 ?_
      obtain ⟨v_4, e_4, h⟩ := bd_some h
      refine go_Vv (As := []) (rest := []) (wc := (wP a k ro sp qr qs)) (wr := [((a 0), .inr (0, [.ref (a 1), .ref (a 2), .int cc, .int ci, .ref (a 3), .ref (a 4), .ref (a 5), .ref (a 6), .ref (a 7), .ref (a 10), .int we])), ((a 1), .inl (k 1, 40, .inl lab)), ((a 2), .inl (k 2, 10, .inl sg)), ((a 3), .inl (k 3, 10, .inl od)), ((a 4), .inl (k 4, 100, .inl sd)), ((a 5), .inl (k 5, 10, .inl go)), ((a 6), .inl (k 6, 330, .inl ta)), ((a 7), .inr (1, [.ref (a 8), .ref (a 9)])), ((a 8), .inl (k 8, 40, .inl oe)), ((a 9), .inl (k 9, 100, .inl fp))]) (w1 := (wP a k v_4.1 v_4.2.1 v_4.2.2.1 v_4.2.2.2)) (w2 := (wB a k lab sg cc ci od sd go ta we oe fp v_4.1 v_4.2.1 v_4.2.2.1 v_4.2.2.2)) (tc := [(k 11, .long)]) hx hb hml hown ht (c_P_timesD l D a k H.size ro sp qr qs v_4 e_4) g_B_166 ⟨rfl, rfl⟩ (n := 0) (by decide +kernel) ⟨(Nat.le_of_ble_eq_true rfl), (Nat.le_of_ble_eq_true rfl)⟩ hP hD hK hS hA ⟨Nat.zero_le _, Nat.zero_le _⟩ [10, 11, 12] [0, 1, 2, 3, 4, 5, 6, 7, 8, 9] [8] [0, 1, 2, 3, 4, 5, 6, 7, 8, 9, 10, 11, 12] rfl rfl rfl rfl (by decide) (by decide) (by decide) rfl (by decide) 0 rfl rfl rfl rfl rfl hl.1 (Nat.le_of_ble_eq_true rfl) d_B_sumTally_22 (fun H locs hP hD hS => ?_)
      refine lv_iconst (v := 0) hx hb d_B_sumTally_25 (by decide) ?_
      refine lv_istore_n (lv' := [(2, .int (0 : Int32)), (0, .ref (a 0)), (1, .int x1)]) hx hb d_B_sumTally_26 rfl hl (by decide) rfl (fun ls hl => ?_)
      exact (k_B_sumTally_27_L C hrec3 fu) _ _ _ _ _ _ _ _ _ h _ _ _ hP hD hS (lv_sub hl [1, 2, 0] rfl)
theorem k_B_sumTally_3_L {p : Program} {l : Launch} {e : Env} {s : State} {m : MethodId} {args : Array Value} {below : List Frame} {meth : Method} {c : Code} {D : va_G} {A : Nat → Prop} {a : Nat → Nat} {k : Nat → ClassId} {lab : Nat → Int32} {sg : Nat → Int32} {ci : Int32} {od : Nat → Int32} {sd : Nat → Int32} {go : Nat → Int32} {we : Int32} {oe : Nat → Int32} {fp : Nat → Int32} (C : cx D [(k 1, .int), (k 2, .int), (k 3, .int), (k 4, .int), (k 5, .boolean), (k 6, .int), (k 8, .int), (k 9, .int), (k 11, .long)] R_B b_B_sumTally 3 none A p s m args meth c) : ∀ n : Nat, H_B_sumTally_3 p l e s m args below meth c D A a k lab sg ci od sd go we oe fp (L_B_sumTally_3 n)
  | 0 => fun _ _ _ _ _ _ _ _ h => nomatch h
  | n + 1 => k_B_sumTally_3 C (k_B_sumTally_3_L C n)
set_option maxHeartbeats 4000000 in
set_option maxRecDepth 100000 in
theorem k_B_sumTally_0 {p : Program} {l : Launch} {e : Env} {s : State} {m : MethodId} {args : Array Value} {below : List Frame} {meth : Method} {c : Code} {D : va_G} {A : Nat → Prop} {a : Nat → Nat} {k : Nat → ClassId} {lab : Nat → Int32} {sg : Nat → Int32} {ci : Int32} {od : Nat → Int32} {sd : Nat → Int32} {go : Nat → Int32} {we : Int32} {oe : Nat → Int32} {fp : Nat → Int32} (C : cx D [(k 1, .int), (k 2, .int), (k 3, .int), (k 4, .int), (k 5, .boolean), (k 6, .int), (k 8, .int), (k 9, .int), (k 11, .long)] R_B b_B_sumTally 3 none A p s m args meth c) : H_B_sumTally_0 p l e s m args below meth c D A a k lab sg ci od sd go we oe fp (J_B_sumTally_0) := by
  obtain ⟨hx, hb, hr, hml, hown, ht, hlk, hA, hK⟩ := id C
  intro cc ta ro sp qr qs r h H locs ls hP hD hS hl
  unfold J_B_sumTally_0 at h
  refine lv_bipush (v := 29) hx hb d_B_sumTally_0 (by decide) ?_
  refine lv_istore_n (lv' := [(1, .int (29 : Int32)), (0, .ref (a 0))]) hx hb d_B_sumTally_2 rfl hl (by decide) rfl (fun ls hl => ?_)
  exact (k_B_sumTally_3_L C fu) _ _ _ _ _ _ _ _ h _ _ _ hP hD hS (lv_sub hl [1, 0] rfl)
set_option maxRecDepth 20000 in
theorem c_B_sumTally (l : Launch) (D : va_G) (a : Nat → Nat) (k : Nat → ClassId) (sz : Nat) (lab : Nat → Int32) (sg : Nat → Int32) (cc : Int32) (ci : Int32) (od : Nat → Int32) (sd : Nat → Int32) (go : Nat → Int32) (ta : Nat → Int32) (we : Int32) (oe : Nat → Int32) (fp : Nat → Int32) (ro : Nat → Int64) (sp : Nat → Int64) (qr : Nat) (qs : Nat) (r : (Nat → Int64) × (Nat → Int64) × Nat × Nat) (h : F_B_sumTally cc ta ro sp qr qs = some r) : Met l y_B_sumTally (Cond.code y_B_sumTally b_B_sumTally 3 none :: lw_g) (rm_B_sumTally) (va_Pc [.ref (a 0)] (pcW D [(k 1, .int), (k 2, .int), (k 3, .int), (k 4, .int), (k 5, .boolean), (k 6, .int), (k 8, .int), (k 9, .int), (k 11, .long)] (wB a k lab sg cc ci od sd go ta we oe fp ro sp qr qs) sz)) (qc_B_sumTally D (va_A (wB a k lab sg cc ci od sd go ta we oe fp ro sp qr qs) sz) a k lab sg cc ci od sd go ta we oe fp r) 0 0 (va_A (wB a k lab sg cc ci od sd go ta we oe fp ro sp qr qs) sz) := by
  refine Met.ofW (cc := b_B_sumTally) (maxL := 3) (ret := none) (by decide) rfl ?_
  intro p e s m args below meth c s₁ B hml hv
  obtain ⟨rfl, hsz, hP, hK, hD0⟩ := hv
  have hts := atoms_spec (ws := Cond.code y_B_sumTally b_B_sumTally 3 none :: lw_g) B.pre
  subst hsz
  have hD := hD0.self (sz := s.heap.size)
  have hl := lv_entry ([.ref (a 0)]) (n := 3) (Nat.le_of_ble_eq_true rfl)
  rw [lg_entry_eq]
  generalize (lg_sl ([.ref (a 0)]) ++ List.replicate (3 - (lg_sl ([.ref (a 0)])).length) Slot.unset).toArray = ls at hl ⊢
  exact k_B_sumTally_0 ⟨B.exec, B.bytes, B.returns, hml, findClass_of_methodNamed B.named, fun w hw => hts w (List.mem_cons_of_mem _ hw), B.notSynchronized, fun q h => Or.inr h, hK⟩ _ _ _ _ _ _ _ h _ _ _ hP hD va_S.rf hl

def rm_B_workOut : Room := { frames := 16, cells := 0, slots := 0, locals := 406 }
def qc_B_workOut (D : va_G) (A : Nat → Prop) (a : Nat → Nat) (k : Nat → ClassId) (lab : Nat → Int32) (sg : Nat → Int32) (cc : Int32) (ci : Int32) (od : Nat → Int32) (go : Nat → Int32) (r : (Nat → Int32) × (Nat → Int32) × Int32 × (Nat → Int32) × (Nat → Int32) × (Nat → Int64) × (Nat → Int64) × Nat × Nat) : Array Value → State → Outcome → State → Prop := va_Qv (fun (_ : Unit) => True) (poW D [(k 1, .int), (k 2, .int), (k 3, .int), (k 4, .int), (k 5, .boolean), (k 6, .int), (k 8, .int), (k 9, .int), (k 11, .long)] (wB a k lab sg cc ci od r.1 go r.2.1 r.2.2.1 r.2.2.2.1 r.2.2.2.2.1 r.2.2.2.2.2.1 r.2.2.2.2.2.2.1 r.2.2.2.2.2.2.2.1 r.2.2.2.2.2.2.2.2) A) A
def J_B_workOut_0 (lab : Nat → Int32) (cc : Int32) (ci : Int32) (od : Nat → Int32) (sd : Nat → Int32) (ta : Nat → Int32) (we : Int32) (oe : Nat → Int32) (fp : Nat → Int32) (ro : Nat → Int64) (sp : Nat → Int64) (qr : Nat) (qs : Nat) : Option ((Nat → Int32) × (Nat → Int32) × Int32 × (Nat → Int32) × (Nat → Int32) × (Nat → Int64) × (Nat → Int64) × Nat × Nat) :=
  (if we = 0 then (Option.bind (F_P_setZero ro) (fun v_2 => (Option.bind (F_B_isCode lab cc sd) (fun v_3 => (if v_3.1 = 0 then some (v_3.2, ta, (1 : Int32), oe, fp, v_2, sp, qr, qs) else (Option.bind (F_B_tallyStates lab cc ci od ta oe fp) (fun v_5 => (Option.bind (F_B_sumTally cc v_5.1 v_2 sp qr qs) (fun v_6 => some (v_3.2, v_5.1, (1 : Int32), v_5.2.1, v_5.2.2, v_6.1, v_6.2.1, v_6.2.2.1, v_6.2.2.2)))))))))) else some (sd, ta, we, oe, fp, ro, sp, qr, qs))
def F_B_workOut (lab : Nat → Int32) (cc : Int32) (ci : Int32) (od : Nat → Int32) (sd : Nat → Int32) (ta : Nat → Int32) (we : Int32) (oe : Nat → Int32) (fp : Nat → Int32) (ro : Nat → Int64) (sp : Nat → Int64) (qr : Nat) (qs : Nat) : Option ((Nat → Int32) × (Nat → Int32) × Int32 × (Nat → Int32) × (Nat → Int32) × (Nat → Int64) × (Nat → Int64) × Nat × Nat) := J_B_workOut_0 lab cc ci od sd ta we oe fp ro sp qr qs
def H_B_workOut_0 (p : Program) (l : Launch) (e : Env) (s : State) (m : MethodId) (args : Array Value) (below : List Frame) (meth : Method) (c : Code) (D : va_G) (A : Nat → Prop) (a : Nat → Nat) (k : Nat → ClassId) (sg : Nat → Int32) (go : Nat → Int32) (f : (Nat → Int32) → Int32 → Int32 → (Nat → Int32) → (Nat → Int32) → (Nat → Int32) → Int32 → (Nat → Int32) → (Nat → Int32) → (Nat → Int64) → (Nat → Int64) → Nat → Nat → Option ((Nat → Int32) × (Nat → Int32) × Int32 × (Nat → Int32) × (Nat → Int32) × (Nat → Int64) × (Nat → Int64) × Nat × Nat)) : Prop := ∀ (lab : Nat → Int32) (cc : Int32) (ci : Int32) (od : Nat → Int32) (sd : Nat → Int32) (ta : Nat → Int32) (we : Int32) (oe : Nat → Int32) (fp : Nat → Int32) (ro : Nat → Int64) (sp : Nat → Int64) (qr : Nat) (qs : Nat) (r : (Nat → Int32) × (Nat → Int32) × Int32 × (Nat → Int32) × (Nat → Int32) × (Nat → Int64) × (Nat → Int64) × Nat × Nat), f lab cc ci od sd ta we oe fp ro sp qr qs = some r → ∀ (H : Heap) (locs : List Loc) (ls : Array Slot), va_P D classes (wB a k lab sg cc ci od sd go ta we oe fp ro sp qr qs) H → va_D A (wB a k lab sg cc ci od sd go ta we oe fp ro sp qr qs) → va_S A s.heap H locs → lv_has ls 1 [(0, .ref (a 0))] → W p l e (rm_B_workOut) s m args below meth c H locs 0 0 (MQ below (qc_B_workOut D A a k lab sg cc ci od go r) args s 0 0 A) (F0 m 0 ls [])
set_option maxHeartbeats 4000000 in
set_option maxRecDepth 100000 in
theorem k_B_workOut_0 {p : Program} {l : Launch} {e : Env} {s : State} {m : MethodId} {args : Array Value} {below : List Frame} {meth : Method} {c : Code} {D : va_G} {A : Nat → Prop} {a : Nat → Nat} {k : Nat → ClassId} {sg : Nat → Int32} {go : Nat → Int32} (C : cx D [(k 1, .int), (k 2, .int), (k 3, .int), (k 4, .int), (k 5, .boolean), (k 6, .int), (k 8, .int), (k 9, .int), (k 11, .long)] R_B b_B_workOut 1 none A p s m args meth c) : H_B_workOut_0 p l e s m args below meth c D A a k sg go (J_B_workOut_0) := by
  obtain ⟨hx, hb, hr, hml, hown, ht, hlk, hA, hK⟩ := id C
  intro lab cc ci od sd ta we oe fp ro sp qr qs r h H locs ls hP hD hS hl
  unfold J_B_workOut_0 at h
  refine lv_aload_n hx hb d_B_workOut_0 rfl (lv_at hl 0 rfl) ?_
  refine va_get (D := D) (ci := 0) (v := .int we) (C := R_B) (T := F_B) (N := 11) hx hb ht iC_B hown hK hP 0 rfl rfl 10 (by decide) (ht _ ix_39) (fun _ h9 => h9) rfl d_B_workOut_1 ?_
  refine lv_if_eq (tgt := 8) hx hb d_B_workOut_4 (by decide) (fun c_1 => ?_) (fun c_1 => ?_)
  · have h := ite_T c_1 h
    refine lv_aload_n hx hb d_B_workOut_8 rfl (lv_at hl 0 rfl) ?_
    refine va_get (D := D) (ci := 0) (v := .ref (a 10)) (C := R_B) (T := F_B) (N := 11) hx hb ht iC_B hown hK hP 0 rfl rfl 9 (by decide) (ht _ ix_88) (fun _ h9 => h9) rfl d_B_workOut_9 ?_
    obtain ⟨v_2, e_2, h⟩ := bd_some h
    refine go_Vv (As := []) (rest := []) (wc := (wP a k ro sp qr qs)) (wr := [((a 0), .inr (0, [.ref (a 1), .ref (a 2), .int cc, .int ci, .ref (a 3), .ref (a 4), .ref (a 5), .ref (a 6), .ref (a 7), .ref (a 10), .int we])), ((a 1), .inl (k 1, 40, .inl lab)), ((a 2), .inl (k 2, 10, .inl sg)), ((a 3), .inl (k 3, 10, .inl od)), ((a 4), .inl (k 4, 100, .inl sd)), ((a 5), .inl (k 5, 10, .inl go)), ((a 6), .inl (k 6, 330, .inl ta)), ((a 7), .inr (1, [.ref (a 8), .ref (a 9)])), ((a 8), .inl (k 8, 40, .inl oe)), ((a 9), .inl (k 9, 100, .inl fp))]) (w1 := (wP a k v_2 sp qr qs)) (w2 := (wB a k lab sg cc ci od sd go ta we oe fp v_2 sp qr qs)) (tc := [(k 11, .long)]) hx hb hml hown ht (c_P_setZero l D a k H.size ro sp qr qs v_2 e_2) g_B_149 ⟨rfl, rfl⟩ (n := 0) (by decide +kernel) ⟨(Nat.le_of_ble_eq_true rfl), (Nat.le_of_ble_eq_true rfl)⟩ hP hD hK hS hA ⟨Nat.zero_le _, Nat.zero_le _⟩ [10, 11, 12] [0, 1, 2, 3, 4, 5, 6, 7, 8, 9] [8] [0, 1, 2, 3, 4, 5, 6, 7, 8, 9, 10, 11, 12] rfl rfl rfl rfl (by decide) (by decide) (by decide) rfl (by decide) 0 rfl rfl rfl rfl rfl hl.1 (Nat.le_of_ble_eq_true rfl) d_B_workOut_12 (fun H locs hP hD hS => ?_)
    refine lv_aload_n hx hb d_B_workOut_15 rfl (lv_at hl 0 rfl) ?_
    obtain ⟨v_3, e_3, h⟩ := bd_some h
    refine go_Vi (r := v_3.1) (As := []) (rest := []) (wc := (wB a k lab sg cc ci od sd go ta we oe fp v_2 sp qr qs)) (wr := []) (w1 := (wB a k lab sg cc ci od v_3.2 go ta we oe fp v_2 sp qr qs)) (w2 := (wB a k lab sg cc ci od v_3.2 go ta we oe fp v_2 sp qr qs)) (tc := [(k 1, .int), (k 2, .int), (k 3, .int), (k 4, .int), (k 5, .boolean), (k 6, .int), (k 8, .int), (k 9, .int), (k 11, .long)]) hx hb hml hown ht (c_B_isCode l D a k H.size lab sg cc ci od sd go ta we oe fp v_2 sp qr qs v_3 e_3) g_B_67 ⟨rfl, rfl⟩ (n := 0) (by decide +kernel) ⟨(Nat.le_of_ble_eq_true rfl), (Nat.le_of_ble_eq_true rfl)⟩ hP hD hK hS hA ⟨Nat.zero_le _, Nat.zero_le _⟩ [0, 1, 2, 3, 4, 5, 6, 7, 8, 9, 10, 11, 12] [] [0, 1, 2, 3, 4, 5, 6, 7, 8] [0, 1, 2, 3, 4, 5, 6, 7, 8, 9, 10, 11, 12] rfl rfl rfl rfl (by decide) (by decide) (by decide) rfl (by decide) 0 rfl rfl rfl rfl rfl hl.1 (Nat.le_of_ble_eq_true rfl) d_B_workOut_16 (fun H locs hP hD hS => ?_)
    refine lv_if_eq (tgt := 30) hx hb d_B_workOut_19 (by decide) (fun c_4 => ?_) (fun c_4 => ?_)
    · have h := ite_T c_4 h
      refine lv_aload_n hx hb d_B_workOut_30 rfl (lv_at hl 0 rfl) ?_
      refine lv_iconst (v := 1) hx hb d_B_workOut_31 (by decide) ?_
      refine va_put (D := D) (ci := 0) (v := .int (1 : Int32)) (ty := .boolean) (C := R_B) (T := F_B) (N := 11) hx hb ht iC_B t_B t_B_ok n_B hown hK hP hD hS 0 rfl rfl 10 (by decide) (ht _ ix_39) (fun _ h9 => h9) rfl (by decide +kernel) rfl rfl (Nat.le_of_ble_eq_true rfl) d_B_workOut_32 (fun H locs hP hD hS => ?_)
      have hP : va_P D classes (wB a k lab sg cc ci od v_3.2 go ta (1 : Int32) oe fp v_2 sp qr qs) H := hP
      have hD : va_D A (wB a k lab sg cc ci od v_3.2 go ta (1 : Int32) oe fp v_2 sp qr qs) := hD
      cases h
      exact W.vret hx hb hr (fun t ht hW => ⟨⟨(), rfl, trivial, by rw [ht]; exact hP, va_K.moved hW.alike hK, hD⟩, hS.F ht⟩) hS.2.2 d_B_workOut_35 hlk
    · have h := ite_F c_4 h
      refine lv_aload_n hx hb d_B_workOut_22 rfl (lv_at hl 0 rfl) ?_
      obtain ⟨v_5, e_5, h⟩ := bd_some h
      refine go_Vv (As := []) (rest := []) (wc := (wB a k lab sg cc ci od v_3.2 go ta we oe fp v_2 sp qr qs)) (wr := []) (w1 := (wB a k lab sg cc ci od v_3.2 go v_5.1 we v_5.2.1 v_5.2.2 v_2 sp qr qs)) (w2 := (wB a k lab sg cc ci od v_3.2 go v_5.1 we v_5.2.1 v_5.2.2 v_2 sp qr qs)) (tc := [(k 1, .int), (k 2, .int), (k 3, .int), (k 4, .int), (k 5, .boolean), (k 6, .int), (k 8, .int), (k 9, .int), (k 11, .long)]) hx hb hml hown ht (c_B_tallyStates l D a k H.size lab sg cc ci od v_3.2 go ta we oe fp v_2 sp qr qs v_5 e_5) g_B_152 ⟨rfl, rfl⟩ (n := 0) (by decide +kernel) ⟨(Nat.le_of_ble_eq_true rfl), (Nat.le_of_ble_eq_true rfl)⟩ hP hD hK hS hA ⟨Nat.zero_le _, Nat.zero_le _⟩ [0, 1, 2, 3, 4, 5, 6, 7, 8, 9, 10, 11, 12] [] [0, 1, 2, 3, 4, 5, 6, 7, 8] [0, 1, 2, 3, 4, 5, 6, 7, 8, 9, 10, 11, 12] rfl rfl rfl rfl (by decide) (by decide) (by decide) rfl (by decide) 0 rfl rfl rfl rfl rfl hl.1 (Nat.le_of_ble_eq_true rfl) d_B_workOut_23 (fun H locs hP hD hS => ?_)
      refine lv_aload_n hx hb d_B_workOut_26 rfl (lv_at hl 0 rfl) ?_
      obtain ⟨v_6, e_6, h⟩ := bd_some h
      refine go_Vv (As := []) (rest := []) (wc := (wB a k lab sg cc ci od v_3.2 go v_5.1 we v_5.2.1 v_5.2.2 v_2 sp qr qs)) (wr := []) (w1 := (wB a k lab sg cc ci od v_3.2 go v_5.1 we v_5.2.1 v_5.2.2 v_6.1 v_6.2.1 v_6.2.2.1 v_6.2.2.2)) (w2 := (wB a k lab sg cc ci od v_3.2 go v_5.1 we v_5.2.1 v_5.2.2 v_6.1 v_6.2.1 v_6.2.2.1 v_6.2.2.2)) (tc := [(k 1, .int), (k 2, .int), (k 3, .int), (k 4, .int), (k 5, .boolean), (k 6, .int), (k 8, .int), (k 9, .int), (k 11, .long)]) hx hb hml hown ht (c_B_sumTally l D a k H.size lab sg cc ci od v_3.2 go v_5.1 we v_5.2.1 v_5.2.2 v_2 sp qr qs v_6 e_6) g_B_155 ⟨rfl, rfl⟩ (n := 0) (by decide +kernel) ⟨(Nat.le_of_ble_eq_true rfl), (Nat.le_of_ble_eq_true rfl)⟩ hP hD hK hS hA ⟨Nat.zero_le _, Nat.zero_le _⟩ [0, 1, 2, 3, 4, 5, 6, 7, 8, 9, 10, 11, 12] [] [0, 1, 2, 3, 4, 5, 6, 7, 8] [0, 1, 2, 3, 4, 5, 6, 7, 8, 9, 10, 11, 12] rfl rfl rfl rfl (by decide) (by decide) (by decide) rfl (by decide) 0 rfl rfl rfl rfl rfl hl.1 (Nat.le_of_ble_eq_true rfl) d_B_workOut_27 (fun H locs hP hD hS => ?_)
      refine lv_aload_n hx hb d_B_workOut_30 rfl (lv_at hl 0 rfl) ?_
      refine lv_iconst (v := 1) hx hb d_B_workOut_31 (by decide) ?_
      refine va_put (D := D) (ci := 0) (v := .int (1 : Int32)) (ty := .boolean) (C := R_B) (T := F_B) (N := 11) hx hb ht iC_B t_B t_B_ok n_B hown hK hP hD hS 0 rfl rfl 10 (by decide) (ht _ ix_39) (fun _ h9 => h9) rfl (by decide +kernel) rfl rfl (Nat.le_of_ble_eq_true rfl) d_B_workOut_32 (fun H locs hP hD hS => ?_)
      have hP : va_P D classes (wB a k lab sg cc ci od v_3.2 go v_5.1 (1 : Int32) v_5.2.1 v_5.2.2 v_6.1 v_6.2.1 v_6.2.2.1 v_6.2.2.2) H := hP
      have hD : va_D A (wB a k lab sg cc ci od v_3.2 go v_5.1 (1 : Int32) v_5.2.1 v_5.2.2 v_6.1 v_6.2.1 v_6.2.2.1 v_6.2.2.2) := hD
      cases h
      exact W.vret hx hb hr (fun t ht hW => ⟨⟨(), rfl, trivial, by rw [ht]; exact hP, va_K.moved hW.alike hK, hD⟩, hS.F ht⟩) hS.2.2 d_B_workOut_35 hlk
  · have h := ite_F c_1 h
    cases h
    exact W.vret hx hb hr (fun t ht hW => ⟨⟨(), rfl, trivial, by rw [ht]; exact hP, va_K.moved hW.alike hK, hD⟩, hS.F ht⟩) hS.2.2 d_B_workOut_7 hlk
set_option maxRecDepth 20000 in
theorem c_B_workOut (l : Launch) (D : va_G) (a : Nat → Nat) (k : Nat → ClassId) (sz : Nat) (lab : Nat → Int32) (sg : Nat → Int32) (cc : Int32) (ci : Int32) (od : Nat → Int32) (sd : Nat → Int32) (go : Nat → Int32) (ta : Nat → Int32) (we : Int32) (oe : Nat → Int32) (fp : Nat → Int32) (ro : Nat → Int64) (sp : Nat → Int64) (qr : Nat) (qs : Nat) (r : (Nat → Int32) × (Nat → Int32) × Int32 × (Nat → Int32) × (Nat → Int32) × (Nat → Int64) × (Nat → Int64) × Nat × Nat) (h : F_B_workOut lab cc ci od sd ta we oe fp ro sp qr qs = some r) : Met l y_B_workOut (Cond.code y_B_workOut b_B_workOut 1 none :: lw_g) (rm_B_workOut) (va_Pc [.ref (a 0)] (pcW D [(k 1, .int), (k 2, .int), (k 3, .int), (k 4, .int), (k 5, .boolean), (k 6, .int), (k 8, .int), (k 9, .int), (k 11, .long)] (wB a k lab sg cc ci od sd go ta we oe fp ro sp qr qs) sz)) (qc_B_workOut D (va_A (wB a k lab sg cc ci od sd go ta we oe fp ro sp qr qs) sz) a k lab sg cc ci od go r) 0 0 (va_A (wB a k lab sg cc ci od sd go ta we oe fp ro sp qr qs) sz) := by
  refine Met.ofW (cc := b_B_workOut) (maxL := 1) (ret := none) (by decide) rfl ?_
  intro p e s m args below meth c s₁ B hml hv
  obtain ⟨rfl, hsz, hP, hK, hD0⟩ := hv
  have hts := atoms_spec (ws := Cond.code y_B_workOut b_B_workOut 1 none :: lw_g) B.pre
  subst hsz
  have hD := hD0.self (sz := s.heap.size)
  have hl := lv_entry ([.ref (a 0)]) (n := 1) (Nat.le_of_ble_eq_true rfl)
  rw [lg_entry_eq]
  generalize (lg_sl ([.ref (a 0)]) ++ List.replicate (1 - (lg_sl ([.ref (a 0)])).length) Slot.unset).toArray = ls at hl ⊢
  exact k_B_workOut_0 ⟨B.exec, B.bytes, B.returns, hml, findClass_of_methodNamed B.named, fun w hw => hts w (List.mem_cons_of_mem _ hw), B.notSynchronized, fun q h => Or.inr h, hK⟩ _ _ _ _ _ _ _ _ _ _ _ _ _ _ h _ _ _ hP hD va_S.rf hl

def rm_B_crossing : Room := { frames := 1, cells := 0, slots := 0, locals := 21 }
def qc_B_crossing (D : va_G) (A : Nat → Prop) (a : Nat → Nat) (k : Nat → ClassId) (ci : Int32) (sd : Nat → Int32) (go : Nat → Int32) (ta : Nat → Int32) (oe : Nat → Int32) (fp : Nat → Int32) (ro : Nat → Int64) (sp : Nat → Int64) (qr : Nat) (qs : Nat) (r : Int32 × (Nat → Int32) × (Nat → Int32) × Int32 × (Nat → Int32) × Int32) : Array Value → State → Outcome → State → Prop := va_Qi (fun (r1 : Int32) (_ : Unit) => r1 = r.1) (poW D [(k 1, .int), (k 2, .int), (k 3, .int), (k 4, .int), (k 5, .boolean), (k 6, .int), (k 8, .int), (k 9, .int), (k 11, .long)] (wB a k r.2.1 r.2.2.1 r.2.2.2.1 ci r.2.2.2.2.1 sd go ta r.2.2.2.2.2 oe fp ro sp qr qs) A) A
def J_B_crossing_12 (x1 : Int32) (x2 : Int32) (x3 : Int32) (x4 : Int32) (x5 : Int32) (lab : Nat → Int32) (sg : Nat → Int32) (cc : Int32) (od : Nat → Int32) (we : Int32) : Option (Int32 × (Nat → Int32) × (Nat → Int32) × Int32 × (Nat → Int32) × Int32) :=
  (Option.bind (F_B_isLabel x2) (fun v_1 => (if v_1 = 0 then some ((-1 : Int32), lab, sg, cc, od, we) else (Option.bind (F_B_isLabel x3) (fun v_3 => (if v_3 = 0 then some ((-1 : Int32), lab, sg, cc, od, we) else (Option.bind (F_B_isLabel x4) (fun v_5 => (if v_5 = 0 then some ((-1 : Int32), lab, sg, cc, od, we) else (Option.bind (F_B_isLabel x5) (fun v_7 => (if v_7 = 0 then some ((-1 : Int32), lab, sg, cc, od, we) else (if cc < (10 : Int32) then (if inb ((4 : Int32) * cc) 40 then (if inb (((4 : Int32) * cc) + (1 : Int32)) 40 then (if inb (((4 : Int32) * cc) + (2 : Int32)) 40 then (if inb (((4 : Int32) * cc) + (3 : Int32)) 40 then (if inb cc 10 then (Option.bind (F_B_orderAsGiven od we) (fun v_15 => some ((cc + (1 : Int32)), (upd (upd (upd (upd lab ((4 : Int32) * cc).toNatClampNeg x2) (((4 : Int32) * cc) + (1 : Int32)).toNatClampNeg x3) (((4 : Int32) * cc) + (2 : Int32)).toNatClampNeg x4) (((4 : Int32) * cc) + (3 : Int32)).toNatClampNeg x5), (upd sg cc.toNatClampNeg x1), (cc + (1 : Int32)), v_15.1, v_15.2))) else none) else none) else none) else none) else none) else some ((-1 : Int32), lab, sg, cc, od, we))))))))))))))
def J_B_crossing_0 (x1 : Int32) (x2 : Int32) (x3 : Int32) (x4 : Int32) (x5 : Int32) (lab : Nat → Int32) (sg : Nat → Int32) (cc : Int32) (od : Nat → Int32) (we : Int32) : Option (Int32 × (Nat → Int32) × (Nat → Int32) × Int32 × (Nat → Int32) × Int32) :=
  (if x1 = (1 : Int32) then J_B_crossing_12 x1 x2 x3 x4 x5 lab sg cc od we else (if x1 = (-1 : Int32) then J_B_crossing_12 x1 x2 x3 x4 x5 lab sg cc od we else some ((-1 : Int32), lab, sg, cc, od, we)))
def F_B_crossing (x1 : Int32) (x2 : Int32) (x3 : Int32) (x4 : Int32) (x5 : Int32) (lab : Nat → Int32) (sg : Nat → Int32) (cc : Int32) (od : Nat → Int32) (we : Int32) : Option (Int32 × (Nat → Int32) × (Nat → Int32) × Int32 × (Nat → Int32) × Int32) := J_B_crossing_0 x1 x2 x3 x4 x5 lab sg cc od we
def H_B_crossing_12 (p : Program) (l : Launch) (e : Env) (s : State) (m : MethodId) (args : Array Value) (below : List Frame) (meth : Method) (c : Code) (D : va_G) (A : Nat → Prop) (a : Nat → Nat) (k : Nat → ClassId) (ci : Int32) (sd : Nat → Int32) (go : Nat → Int32) (ta : Nat → Int32) (oe : Nat → Int32) (fp : Nat → Int32) (ro : Nat → Int64) (sp : Nat → Int64) (qr : Nat) (qs : Nat) (f : Int32 → Int32 → Int32 → Int32 → Int32 → (Nat → Int32) → (Nat → Int32) → Int32 → (Nat → Int32) → Int32 → Option (Int32 × (Nat → Int32) × (Nat → Int32) × Int32 × (Nat → Int32) × Int32)) : Prop := ∀ (x1 : Int32) (x2 : Int32) (x3 : Int32) (x4 : Int32) (x5 : Int32) (lab : Nat → Int32) (sg : Nat → Int32) (cc : Int32) (od : Nat → Int32) (we : Int32) (r : Int32 × (Nat → Int32) × (Nat → Int32) × Int32 × (Nat → Int32) × Int32), f x1 x2 x3 x4 x5 lab sg cc od we = some r → ∀ (H : Heap) (locs : List Loc) (ls : Array Slot), va_P D classes (wB a k lab sg cc ci od sd go ta we oe fp ro sp qr qs) H → va_D A (wB a k lab sg cc ci od sd go ta we oe fp ro sp qr qs) → va_S A s.heap H locs → lv_has ls 7 [(0, .ref (a 0)), (1, .int x1), (2, .int x2), (3, .int x3), (4, .int x4), (5, .int x5)] → W p l e (rm_B_crossing) s m args below meth c H locs 0 0 (MQ below (qc_B_crossing D A a k ci sd go ta oe fp ro sp qr qs r) args s 0 0 A) (F0 m 12 ls [])
def H_B_crossing_0 (p : Program) (l : Launch) (e : Env) (s : State) (m : MethodId) (args : Array Value) (below : List Frame) (meth : Method) (c : Code) (D : va_G) (A : Nat → Prop) (a : Nat → Nat) (k : Nat → ClassId) (ci : Int32) (sd : Nat → Int32) (go : Nat → Int32) (ta : Nat → Int32) (oe : Nat → Int32) (fp : Nat → Int32) (ro : Nat → Int64) (sp : Nat → Int64) (qr : Nat) (qs : Nat) (f : Int32 → Int32 → Int32 → Int32 → Int32 → (Nat → Int32) → (Nat → Int32) → Int32 → (Nat → Int32) → Int32 → Option (Int32 × (Nat → Int32) × (Nat → Int32) × Int32 × (Nat → Int32) × Int32)) : Prop := ∀ (x1 : Int32) (x2 : Int32) (x3 : Int32) (x4 : Int32) (x5 : Int32) (lab : Nat → Int32) (sg : Nat → Int32) (cc : Int32) (od : Nat → Int32) (we : Int32) (r : Int32 × (Nat → Int32) × (Nat → Int32) × Int32 × (Nat → Int32) × Int32), f x1 x2 x3 x4 x5 lab sg cc od we = some r → ∀ (H : Heap) (locs : List Loc) (ls : Array Slot), va_P D classes (wB a k lab sg cc ci od sd go ta we oe fp ro sp qr qs) H → va_D A (wB a k lab sg cc ci od sd go ta we oe fp ro sp qr qs) → va_S A s.heap H locs → lv_has ls 7 [(0, .ref (a 0)), (1, .int x1), (2, .int x2), (3, .int x3), (4, .int x4), (5, .int x5)] → W p l e (rm_B_crossing) s m args below meth c H locs 0 0 (MQ below (qc_B_crossing D A a k ci sd go ta oe fp ro sp qr qs r) args s 0 0 A) (F0 m 0 ls [])
set_option maxHeartbeats 4000000 in
set_option maxRecDepth 100000 in
theorem k_B_crossing_12 {p : Program} {l : Launch} {e : Env} {s : State} {m : MethodId} {args : Array Value} {below : List Frame} {meth : Method} {c : Code} {D : va_G} {A : Nat → Prop} {a : Nat → Nat} {k : Nat → ClassId} {ci : Int32} {sd : Nat → Int32} {go : Nat → Int32} {ta : Nat → Int32} {oe : Nat → Int32} {fp : Nat → Int32} {ro : Nat → Int64} {sp : Nat → Int64} {qr : Nat} {qs : Nat} (C : cx D [(k 1, .int), (k 2, .int), (k 3, .int), (k 4, .int), (k 5, .boolean), (k 6, .int), (k 8, .int), (k 9, .int), (k 11, .long)] R_B b_B_crossing 7 (some .int) A p s m args meth c) : H_B_crossing_12 p l e s m args below meth c D A a k ci sd go ta oe fp ro sp qr qs (J_B_crossing_12) := by
  obtain ⟨hx, hb, hr, hml, hown, ht, hlk, hA, hK⟩ := id C
  intro x1 x2 x3 x4 x5 lab sg cc od we r h H locs ls hP hD hS hl
  unfold J_B_crossing_12 at h
  refine lv_iload_n hx hb d_B_crossing_12 rfl (lv_at hl 2 rfl) ?_
  obtain ⟨v_1, e_1, h⟩ := bd_some h
  refine go_Si (r := v_1) (As := [.int x2]) (rest := []) (wc := (wN a k )) (wr := [((a 0), .inr (0, [.ref (a 1), .ref (a 2), .int cc, .int ci, .ref (a 3), .ref (a 4), .ref (a 5), .ref (a 6), .ref (a 7), .ref (a 10), .int we])), ((a 1), .inl (k 1, 40, .inl lab)), ((a 2), .inl (k 2, 10, .inl sg)), ((a 3), .inl (k 3, 10, .inl od)), ((a 4), .inl (k 4, 100, .inl sd)), ((a 5), .inl (k 5, 10, .inl go)), ((a 6), .inl (k 6, 330, .inl ta)), ((a 7), .inr (1, [.ref (a 8), .ref (a 9)])), ((a 8), .inl (k 8, 40, .inl oe)), ((a 9), .inl (k 9, 100, .inl fp)), ((a 10), .inr (2, [.ref qr, .ref qs])), (qr, .inl (k 11, 133, .inr (.inl ro))), (qs, .inl (k 11, 133, .inr (.inl sp)))]) (w1 := (wN a k )) (w2 := (wB a k lab sg cc ci od sd go ta we oe fp ro sp qr qs)) (tc := []) hx hb hml hown ht (c_B_isLabel l D a k H.size x2 v_1 e_1) g_B_57 ⟨rfl, rfl⟩ (n := 1) (by decide +kernel) ⟨(Nat.le_of_ble_eq_true rfl), (Nat.le_of_ble_eq_true rfl)⟩ hP hD hK hS hA ⟨Nat.zero_le _, Nat.zero_le _⟩ [] [0, 1, 2, 3, 4, 5, 6, 7, 8, 9, 10, 11, 12] [] [0, 1, 2, 3, 4, 5, 6, 7, 8, 9, 10, 11, 12] rfl rfl rfl rfl (by decide) (by decide) (by decide) rfl (by decide) rfl rfl hl.1 (Nat.le_of_ble_eq_true rfl) d_B_crossing_13 (fun H locs hP hD hS => ?_)
  refine lv_if_eq (tgt := 42) hx hb d_B_crossing_16 (by decide) (fun c_2 => ?_) (fun c_2 => ?_)
  · have h := ite_T c_2 h
    refine lv_iconst (v := (-1)) hx hb d_B_crossing_42 (by decide) ?_
    cases h
    exact W.iret hx hb hr (fun t ht hW => ⟨⟨_, (), rfl, rfl, by rw [ht]; exact hP, va_K.moved hW.alike hK, hD⟩, hS.F ht⟩) hS.2.2 d_B_crossing_43 hlk
  · have h := ite_F c_2 h
    refine lv_iload_n hx hb d_B_crossing_19 rfl (lv_at hl 3 rfl) ?_
    obtain ⟨v_3, e_3, h⟩ := bd_some h
    refine go_Si (r := v_3) (As := [.int x3]) (rest := []) (wc := (wN a k )) (wr := [((a 0), .inr (0, [.ref (a 1), .ref (a 2), .int cc, .int ci, .ref (a 3), .ref (a 4), .ref (a 5), .ref (a 6), .ref (a 7), .ref (a 10), .int we])), ((a 1), .inl (k 1, 40, .inl lab)), ((a 2), .inl (k 2, 10, .inl sg)), ((a 3), .inl (k 3, 10, .inl od)), ((a 4), .inl (k 4, 100, .inl sd)), ((a 5), .inl (k 5, 10, .inl go)), ((a 6), .inl (k 6, 330, .inl ta)), ((a 7), .inr (1, [.ref (a 8), .ref (a 9)])), ((a 8), .inl (k 8, 40, .inl oe)), ((a 9), .inl (k 9, 100, .inl fp)), ((a 10), .inr (2, [.ref qr, .ref qs])), (qr, .inl (k 11, 133, .inr (.inl ro))), (qs, .inl (k 11, 133, .inr (.inl sp)))]) (w1 := (wN a k )) (w2 := (wB a k lab sg cc ci od sd go ta we oe fp ro sp qr qs)) (tc := []) hx hb hml hown ht (c_B_isLabel l D a k H.size x3 v_3 e_3) g_B_57 ⟨rfl, rfl⟩ (n := 1) (by decide +kernel) ⟨(Nat.le_of_ble_eq_true rfl), (Nat.le_of_ble_eq_true rfl)⟩ hP hD hK hS hA ⟨Nat.zero_le _, Nat.zero_le _⟩ [] [0, 1, 2, 3, 4, 5, 6, 7, 8, 9, 10, 11, 12] [] [0, 1, 2, 3, 4, 5, 6, 7, 8, 9, 10, 11, 12] rfl rfl rfl rfl (by decide) (by decide) (by decide) rfl (by decide) rfl rfl hl.1 (Nat.le_of_ble_eq_true rfl) d_B_crossing_20 (fun H locs hP hD hS => ?_)
    refine lv_if_eq (tgt := 42) hx hb d_B_crossing_23 (by decide) (fun c_4 => ?_) (fun c_4 => ?_)
    · have h := ite_T c_4 h
      refine lv_iconst (v := (-1)) hx hb d_B_crossing_42 (by decide) ?_
      cases h
      exact W.iret hx hb hr (fun t ht hW => ⟨⟨_, (), rfl, rfl, by rw [ht]; exact hP, va_K.moved hW.alike hK, hD⟩, hS.F ht⟩) hS.2.2 d_B_crossing_43 hlk
    · have h := ite_F c_4 h
      refine lv_iload hx hb d_B_crossing_26 (lv_at hl 4 rfl) ?_
      obtain ⟨v_5, e_5, h⟩ := bd_some h
      refine go_Si (r := v_5) (As := [.int x4]) (rest := []) (wc := (wN a k )) (wr := [((a 0), .inr (0, [.ref (a 1), .ref (a 2), .int cc, .int ci, .ref (a 3), .ref (a 4), .ref (a 5), .ref (a 6), .ref (a 7), .ref (a 10), .int we])), ((a 1), .inl (k 1, 40, .inl lab)), ((a 2), .inl (k 2, 10, .inl sg)), ((a 3), .inl (k 3, 10, .inl od)), ((a 4), .inl (k 4, 100, .inl sd)), ((a 5), .inl (k 5, 10, .inl go)), ((a 6), .inl (k 6, 330, .inl ta)), ((a 7), .inr (1, [.ref (a 8), .ref (a 9)])), ((a 8), .inl (k 8, 40, .inl oe)), ((a 9), .inl (k 9, 100, .inl fp)), ((a 10), .inr (2, [.ref qr, .ref qs])), (qr, .inl (k 11, 133, .inr (.inl ro))), (qs, .inl (k 11, 133, .inr (.inl sp)))]) (w1 := (wN a k )) (w2 := (wB a k lab sg cc ci od sd go ta we oe fp ro sp qr qs)) (tc := []) hx hb hml hown ht (c_B_isLabel l D a k H.size x4 v_5 e_5) g_B_57 ⟨rfl, rfl⟩ (n := 1) (by decide +kernel) ⟨(Nat.le_of_ble_eq_true rfl), (Nat.le_of_ble_eq_true rfl)⟩ hP hD hK hS hA ⟨Nat.zero_le _, Nat.zero_le _⟩ [] [0, 1, 2, 3, 4, 5, 6, 7, 8, 9, 10, 11, 12] [] [0, 1, 2, 3, 4, 5, 6, 7, 8, 9, 10, 11, 12] rfl rfl rfl rfl (by decide) (by decide) (by decide) rfl (by decide) rfl rfl hl.1 (Nat.le_of_ble_eq_true rfl) d_B_crossing_28 (fun H locs hP hD hS => ?_)
      refine lv_if_eq (tgt := 42) hx hb d_B_crossing_31 (by decide) (fun c_6 => ?_) (fun c_6 => ?_)
      · have h := ite_T c_6 h
        refine lv_iconst (v := (-1)) hx hb d_B_crossing_42 (by decide) ?_
        cases h
        exact W.iret hx hb hr (fun t ht hW => ⟨⟨_, (), rfl, rfl, by rw [ht]; exact hP, va_K.moved hW.alike hK, hD⟩, hS.F ht⟩) hS.2.2 d_B_crossing_43 hlk
      · have h := ite_F c_6 h
        refine lv_iload hx hb d_B_crossing_34 (lv_at hl 5 rfl) ?_
        obtain ⟨v_7, e_7, h⟩ := bd_some h
        refine go_Si (r := v_7) (As := [.int x5]) (rest := []) (wc := (wN a k )) (wr := [((a 0), .inr (0, [.ref (a 1), .ref (a 2), .int cc, .int ci, .ref (a 3), .ref (a 4), .ref (a 5), .ref (a 6), .ref (a 7), .ref (a 10), .int we])), ((a 1), .inl (k 1, 40, .inl lab)), ((a 2), .inl (k 2, 10, .inl sg)), ((a 3), .inl (k 3, 10, .inl od)), ((a 4), .inl (k 4, 100, .inl sd)), ((a 5), .inl (k 5, 10, .inl go)), ((a 6), .inl (k 6, 330, .inl ta)), ((a 7), .inr (1, [.ref (a 8), .ref (a 9)])), ((a 8), .inl (k 8, 40, .inl oe)), ((a 9), .inl (k 9, 100, .inl fp)), ((a 10), .inr (2, [.ref qr, .ref qs])), (qr, .inl (k 11, 133, .inr (.inl ro))), (qs, .inl (k 11, 133, .inr (.inl sp)))]) (w1 := (wN a k )) (w2 := (wB a k lab sg cc ci od sd go ta we oe fp ro sp qr qs)) (tc := []) hx hb hml hown ht (c_B_isLabel l D a k H.size x5 v_7 e_7) g_B_57 ⟨rfl, rfl⟩ (n := 1) (by decide +kernel) ⟨(Nat.le_of_ble_eq_true rfl), (Nat.le_of_ble_eq_true rfl)⟩ hP hD hK hS hA ⟨Nat.zero_le _, Nat.zero_le _⟩ [] [0, 1, 2, 3, 4, 5, 6, 7, 8, 9, 10, 11, 12] [] [0, 1, 2, 3, 4, 5, 6, 7, 8, 9, 10, 11, 12] rfl rfl rfl rfl (by decide) (by decide) (by decide) rfl (by decide) rfl rfl hl.1 (Nat.le_of_ble_eq_true rfl) d_B_crossing_36 (fun H locs hP hD hS => ?_)
        refine lv_if_ne (tgt := 44) hx hb d_B_crossing_39 (by decide) (fun c_8 => ?_) (fun c_8 => ?_)
        · have h := ite_F c_8 h
          refine lv_aload_n hx hb d_B_crossing_44 rfl (lv_at hl 0 rfl) ?_
          refine va_get (D := D) (ci := 0) (v := .int cc) (C := R_B) (T := F_B) (N := 11) hx hb ht iC_B hown hK hP 0 rfl rfl 2 (by decide) (ht _ ix_38) (fun _ h9 => h9) rfl d_B_crossing_45 ?_
          refine lv_bipush (v := 10) hx hb d_B_crossing_48 (by decide) ?_
          refine lv_icmp_lt (tgt := 55) hx hb d_B_crossing_50 (by decide) (fun c_9 => ?_) (fun c_9 => ?_)
          · have h := ite_T c_9 h
            refine lv_iconst (v := 4) hx hb d_B_crossing_55 (by decide) ?_
            refine lv_aload_n hx hb d_B_crossing_56 rfl (lv_at hl 0 rfl) ?_
            refine va_get (D := D) (ci := 0) (v := .int cc) (C := R_B) (T := F_B) (N := 11) hx hb ht iC_B hown hK hP 0 rfl rfl 2 (by decide) (ht _ ix_38) (fun _ h9 => h9) rfl d_B_crossing_57 ?_
            refine lv_imul hx hb d_B_crossing_60 ?_
            refine lv_istore (lv' := [(6, .int ((4 : Int32) * cc)), (0, .ref (a 0)), (1, .int x1), (2, .int x2), (3, .int x3), (4, .int x4), (5, .int x5)]) hx hb d_B_crossing_61 hl (by decide) rfl (fun ls hl => ?_)
            refine lv_aload_n hx hb d_B_crossing_63 rfl (lv_at hl 1 rfl) ?_
            refine va_get (D := D) (ci := 0) (v := .ref (a 1)) (C := R_B) (T := F_B) (N := 11) hx hb ht iC_B hown hK hP 0 rfl rfl 0 (by decide) (ht _ ix_43) (fun _ h9 => h9) rfl d_B_crossing_64 ?_
            refine lv_iload hx hb d_B_crossing_67 (lv_at hl 0 rfl) ?_
            refine lv_iload_n hx hb d_B_crossing_69 rfl (lv_at hl 3 rfl) ?_
            obtain ⟨g_10, h⟩ := gd_some h
            refine va_iast hx hb hK hP hD hS 1 0 rfl rfl (inb_in g_10) d_B_crossing_70 (fun H locs hP hD hS => ?_)
            have hP : va_P D classes (wB a k (upd lab ((4 : Int32) * cc).toNatClampNeg x2) sg cc ci od sd go ta we oe fp ro sp qr qs) H := hP
            have hD : va_D A (wB a k (upd lab ((4 : Int32) * cc).toNatClampNeg x2) sg cc ci od sd go ta we oe fp ro sp qr qs) := hD
            refine lv_aload_n hx hb d_B_crossing_71 rfl (lv_at hl 1 rfl) ?_
            refine va_get (D := D) (ci := 0) (v := .ref (a 1)) (C := R_B) (T := F_B) (N := 11) hx hb ht iC_B hown hK hP 0 rfl rfl 0 (by decide) (ht _ ix_43) (fun _ h9 => h9) rfl d_B_crossing_72 ?_
            refine lv_iload hx hb d_B_crossing_75 (lv_at hl 0 rfl) ?_
            refine lv_iconst (v := 1) hx hb d_B_crossing_77 (by decide) ?_
            refine lv_iadd hx hb d_B_crossing_78 ?_
            refine lv_iload_n hx hb d_B_crossing_79 rfl (lv_at hl 4 rfl) ?_
            obtain ⟨g_11, h⟩ := gd_some h
            refine va_iast hx hb hK hP hD hS 1 0 rfl rfl (inb_in g_11) d_B_crossing_80 (fun H locs hP hD hS => ?_)
            have hP : va_P D classes (wB a k (upd (upd lab ((4 : Int32) * cc).toNatClampNeg x2) (((4 : Int32) * cc) + (1 : Int32)).toNatClampNeg x3) sg cc ci od sd go ta we oe fp ro sp qr qs) H := hP
            have hD : va_D A (wB a k (upd (upd lab ((4 : Int32) * cc).toNatClampNeg x2) (((4 : Int32) * cc) + (1 : Int32)).toNatClampNeg x3) sg cc ci od sd go ta we oe fp ro sp qr qs) := hD
            refine lv_aload_n hx hb d_B_crossing_81 rfl (lv_at hl 1 rfl) ?_
            refine va_get (D := D) (ci := 0) (v := .ref (a 1)) (C := R_B) (T := F_B) (N := 11) hx hb ht iC_B hown hK hP 0 rfl rfl 0 (by decide) (ht _ ix_43) (fun _ h9 => h9) rfl d_B_crossing_82 ?_
            refine lv_iload hx hb d_B_crossing_85 (lv_at hl 0 rfl) ?_
            refine lv_iconst (v := 2) hx hb d_B_crossing_87 (by decide) ?_
            refine lv_iadd hx hb d_B_crossing_88 ?_
            refine lv_iload hx hb d_B_crossing_89 (lv_at hl 5 rfl) ?_
            obtain ⟨g_12, h⟩ := gd_some h
            refine va_iast hx hb hK hP hD hS 1 0 rfl rfl (inb_in g_12) d_B_crossing_91 (fun H locs hP hD hS => ?_)
            have hP : va_P D classes (wB a k (upd (upd (upd lab ((4 : Int32) * cc).toNatClampNeg x2) (((4 : Int32) * cc) + (1 : Int32)).toNatClampNeg x3) (((4 : Int32) * cc) + (2 : Int32)).toNatClampNeg x4) sg cc ci od sd go ta we oe fp ro sp qr qs) H := hP
            have hD : va_D A (wB a k (upd (upd (upd lab ((4 : Int32) * cc).toNatClampNeg x2) (((4 : Int32) * cc) + (1 : Int32)).toNatClampNeg x3) (((4 : Int32) * cc) + (2 : Int32)).toNatClampNeg x4) sg cc ci od sd go ta we oe fp ro sp qr qs) := hD
            refine lv_aload_n hx hb d_B_crossing_92 rfl (lv_at hl 1 rfl) ?_
            refine va_get (D := D) (ci := 0) (v := .ref (a 1)) (C := R_B) (T := F_B) (N := 11) hx hb ht iC_B hown hK hP 0 rfl rfl 0 (by decide) (ht _ ix_43) (fun _ h9 => h9) rfl d_B_crossing_93 ?_
            refine lv_iload hx hb d_B_crossing_96 (lv_at hl 0 rfl) ?_
            refine lv_iconst (v := 3) hx hb d_B_crossing_98 (by decide) ?_
            refine lv_iadd hx hb d_B_crossing_99 ?_
            refine lv_iload hx hb d_B_crossing_100 (lv_at hl 6 rfl) ?_
            obtain ⟨g_13, h⟩ := gd_some h
            refine va_iast hx hb hK hP hD hS 1 0 rfl rfl (inb_in g_13) d_B_crossing_102 (fun H locs hP hD hS => ?_)
            have hP : va_P D classes (wB a k (upd (upd (upd (upd lab ((4 : Int32) * cc).toNatClampNeg x2) (((4 : Int32) * cc) + (1 : Int32)).toNatClampNeg x3) (((4 : Int32) * cc) + (2 : Int32)).toNatClampNeg x4) (((4 : Int32) * cc) + (3 : Int32)).toNatClampNeg x5) sg cc ci od sd go ta we oe fp ro sp qr qs) H := hP
            have hD : va_D A (wB a k (upd (upd (upd (upd lab ((4 : Int32) * cc).toNatClampNeg x2) (((4 : Int32) * cc) + (1 : Int32)).toNatClampNeg x3) (((4 : Int32) * cc) + (2 : Int32)).toNatClampNeg x4) (((4 : Int32) * cc) + (3 : Int32)).toNatClampNeg x5) sg cc ci od sd go ta we oe fp ro sp qr qs) := hD
            refine lv_aload_n hx hb d_B_crossing_103 rfl (lv_at hl 1 rfl) ?_
            refine va_get (D := D) (ci := 0) (v := .ref (a 2)) (C := R_B) (T := F_B) (N := 11) hx hb ht iC_B hown hK hP 0 rfl rfl 1 (by decide) (ht _ ix_53) (fun _ h9 => h9) rfl d_B_crossing_104 ?_
            refine lv_aload_n hx hb d_B_crossing_107 rfl (lv_at hl 1 rfl) ?_
            refine va_get (D := D) (ci := 0) (v := .int cc) (C := R_B) (T := F_B) (N := 11) hx hb ht iC_B hown hK hP 0 rfl rfl 2 (by decide) (ht _ ix_38) (fun _ h9 => h9) rfl d_B_crossing_108 ?_
            refine lv_iload_n hx hb d_B_crossing_111 rfl (lv_at hl 2 rfl) ?_
            obtain ⟨g_14, h⟩ := gd_some h
            refine va_iast hx hb hK hP hD hS 2 1 rfl rfl (inb_in g_14) d_B_crossing_112 (fun H locs hP hD hS => ?_)
            have hP : va_P D classes (wB a k (upd (upd (upd (upd lab ((4 : Int32) * cc).toNatClampNeg x2) (((4 : Int32) * cc) + (1 : Int32)).toNatClampNeg x3) (((4 : Int32) * cc) + (2 : Int32)).toNatClampNeg x4) (((4 : Int32) * cc) + (3 : Int32)).toNatClampNeg x5) (upd sg cc.toNatClampNeg x1) cc ci od sd go ta we oe fp ro sp qr qs) H := hP
            have hD : va_D A (wB a k (upd (upd (upd (upd lab ((4 : Int32) * cc).toNatClampNeg x2) (((4 : Int32) * cc) + (1 : Int32)).toNatClampNeg x3) (((4 : Int32) * cc) + (2 : Int32)).toNatClampNeg x4) (((4 : Int32) * cc) + (3 : Int32)).toNatClampNeg x5) (upd sg cc.toNatClampNeg x1) cc ci od sd go ta we oe fp ro sp qr qs) := hD
            refine lv_aload_n hx hb d_B_crossing_113 rfl (lv_at hl 1 rfl) ?_
            refine lv_dup hx hb d_B_crossing_114 rfl ?_
            refine va_get (D := D) (ci := 0) (v := .int cc) (C := R_B) (T := F_B) (N := 11) hx hb ht iC_B hown hK hP 0 rfl rfl 2 (by decide) (ht _ ix_38) (fun _ h9 => h9) rfl d_B_crossing_115 ?_
            refine lv_iconst (v := 1) hx hb d_B_crossing_118 (by decide) ?_
            refine lv_iadd hx hb d_B_crossing_119 ?_
            refine va_put (D := D) (ci := 0) (v := .int (cc + (1 : Int32))) (ty := .int) (C := R_B) (T := F_B) (N := 11) hx hb ht iC_B t_B t_B_ok n_B hown hK hP hD hS 0 rfl rfl 2 (by decide) (ht _ ix_38) (fun _ h9 => h9) rfl (by decide +kernel) rfl rfl (Nat.le_of_ble_eq_true rfl) d_B_crossing_120 (fun H locs hP hD hS => ?_)
            have hP : va_P D classes (wB a k (upd (upd (upd (upd lab ((4 : Int32) * cc).toNatClampNeg x2) (((4 : Int32) * cc) + (1 : Int32)).toNatClampNeg x3) (((4 : Int32) * cc) + (2 : Int32)).toNatClampNeg x4) (((4 : Int32) * cc) + (3 : Int32)).toNatClampNeg x5) (upd sg cc.toNatClampNeg x1) (cc + (1 : Int32)) ci od sd go ta we oe fp ro sp qr qs) H := hP
            have hD : va_D A (wB a k (upd (upd (upd (upd lab ((4 : Int32) * cc).toNatClampNeg x2) (((4 : Int32) * cc) + (1 : Int32)).toNatClampNeg x3) (((4 : Int32) * cc) + (2 : Int32)).toNatClampNeg x4) (((4 : Int32) * cc) + (3 : Int32)).toNatClampNeg x5) (upd sg cc.toNatClampNeg x1) (cc + (1 : Int32)) ci od sd go ta we oe fp ro sp qr qs) := hD
            refine lv_aload_n hx hb d_B_crossing_123 rfl (lv_at hl 1 rfl) ?_
            obtain ⟨v_15, e_15, h⟩ := bd_some h
            refine go_Vv (As := []) (rest := []) (wc := (wB a k (upd (upd (upd (upd lab ((4 : Int32) * cc).toNatClampNeg x2) (((4 : Int32) * cc) + (1 : Int32)).toNatClampNeg x3) (((4 : Int32) * cc) + (2 : Int32)).toNatClampNeg x4) (((4 : Int32) * cc) + (3 : Int32)).toNatClampNeg x5) (upd sg cc.toNatClampNeg x1) (cc + (1 : Int32)) ci od sd go ta we oe fp ro sp qr qs)) (wr := []) (w1 := (wB a k (upd (upd (upd (upd lab ((4 : Int32) * cc).toNatClampNeg x2) (((4 : Int32) * cc) + (1 : Int32)).toNatClampNeg x3) (((4 : Int32) * cc) + (2 : Int32)).toNatClampNeg x4) (((4 : Int32) * cc) + (3 : Int32)).toNatClampNeg x5) (upd sg cc.toNatClampNeg x1) (cc + (1 : Int32)) ci v_15.1 sd go ta v_15.2 oe fp ro sp qr qs)) (w2 := (wB a k (upd (upd (upd (upd lab ((4 : Int32) * cc).toNatClampNeg x2) (((4 : Int32) * cc) + (1 : Int32)).toNatClampNeg x3) (((4 : Int32) * cc) + (2 : Int32)).toNatClampNeg x4) (((4 : Int32) * cc) + (3 : Int32)).toNatClampNeg x5) (upd sg cc.toNatClampNeg x1) (cc + (1 : Int32)) ci v_15.1 sd go ta v_15.2 oe fp ro sp qr qs)) (tc := [(k 1, .int), (k 2, .int), (k 3, .int), (k 4, .int), (k 5, .boolean), (k 6, .int), (k 8, .int), (k 9, .int), (k 11, .long)]) hx hb hml hown ht (c_B_orderAsGiven l D a k H.size (upd (upd (upd (upd lab ((4 : Int32) * cc).toNatClampNeg x2) (((4 : Int32) * cc) + (1 : Int32)).toNatClampNeg x3) (((4 : Int32) * cc) + (2 : Int32)).toNatClampNeg x4) (((4 : Int32) * cc) + (3 : Int32)).toNatClampNeg x5) (upd sg cc.toNatClampNeg x1) (cc + (1 : Int32)) ci od sd go ta we oe fp ro sp qr qs v_15 e_15) g_B_54 ⟨rfl, rfl⟩ (n := 0) (by decide +kernel) ⟨(Nat.le_of_ble_eq_true rfl), (Nat.le_of_ble_eq_true rfl)⟩ hP hD hK hS hA ⟨Nat.zero_le _, Nat.zero_le _⟩ [0, 1, 2, 3, 4, 5, 6, 7, 8, 9, 10, 11, 12] [] [0, 1, 2, 3, 4, 5, 6, 7, 8] [0, 1, 2, 3, 4, 5, 6, 7, 8, 9, 10, 11, 12] rfl rfl rfl rfl (by decide) (by decide) (by decide) rfl (by decide) 0 rfl rfl rfl rfl rfl hl.1 (Nat.le_of_ble_eq_true rfl) d_B_crossing_124 (fun H locs hP hD hS => ?_)
            refine lv_aload_n hx hb d_B_crossing_127 rfl (lv_at hl 1 rfl) ?_
            refine va_get (D := D) (ci := 0) (v := .int (cc + (1 : Int32))) (C := R_B) (T := F_B) (N := 11) hx hb ht iC_B hown hK hP 0 rfl rfl 2 (by decide) (ht _ ix_38) (fun _ h9 => h9) rfl d_B_crossing_128 ?_
            cases h
            exact W.iret hx hb hr (fun t ht hW => ⟨⟨_, (), rfl, rfl, by rw [ht]; exact hP, va_K.moved hW.alike hK, hD⟩, hS.F ht⟩) hS.2.2 d_B_crossing_131 hlk
          · have h := ite_F c_9 h
            refine lv_iconst (v := (-1)) hx hb d_B_crossing_53 (by decide) ?_
            cases h
            exact W.iret hx hb hr (fun t ht hW => ⟨⟨_, (), rfl, rfl, by rw [ht]; exact hP, va_K.moved hW.alike hK, hD⟩, hS.F ht⟩) hS.2.2 d_B_crossing_54 hlk
        · have h := ite_T c_8 h
          refine lv_iconst (v := (-1)) hx hb d_B_crossing_42 (by decide) ?_
          cases h
          exact W.iret hx hb hr (fun t ht hW => ⟨⟨_, (), rfl, rfl, by rw [ht]; exact hP, va_K.moved hW.alike hK, hD⟩, hS.F ht⟩) hS.2.2 d_B_crossing_43 hlk
set_option maxHeartbeats 4000000 in
set_option maxRecDepth 100000 in
theorem k_B_crossing_0 {p : Program} {l : Launch} {e : Env} {s : State} {m : MethodId} {args : Array Value} {below : List Frame} {meth : Method} {c : Code} {D : va_G} {A : Nat → Prop} {a : Nat → Nat} {k : Nat → ClassId} {ci : Int32} {sd : Nat → Int32} {go : Nat → Int32} {ta : Nat → Int32} {oe : Nat → Int32} {fp : Nat → Int32} {ro : Nat → Int64} {sp : Nat → Int64} {qr : Nat} {qs : Nat} (C : cx D [(k 1, .int), (k 2, .int), (k 3, .int), (k 4, .int), (k 5, .boolean), (k 6, .int), (k 8, .int), (k 9, .int), (k 11, .long)] R_B b_B_crossing 7 (some .int) A p s m args meth c) : H_B_crossing_0 p l e s m args below meth c D A a k ci sd go ta oe fp ro sp qr qs (J_B_crossing_0) := by
  obtain ⟨hx, hb, hr, hml, hown, ht, hlk, hA, hK⟩ := id C
  intro x1 x2 x3 x4 x5 lab sg cc od we r h H locs ls hP hD hS hl
  unfold J_B_crossing_0 at h
  refine lv_iload_n hx hb d_B_crossing_0 rfl (lv_at hl 1 rfl) ?_
  refine lv_iconst (v := 1) hx hb d_B_crossing_1 (by decide) ?_
  refine lv_icmp_eq (tgt := 12) hx hb d_B_crossing_2 (by decide) (fun c_1 => ?_) (fun c_1 => ?_)
  · have h := ite_T c_1 h
    exact (k_B_crossing_12 C) _ _ _ _ _ _ _ _ _ _ _ h _ _ _ hP hD hS (lv_sub hl [0, 1, 2, 3, 4, 5] rfl)
  · have h := ite_F c_1 h
    refine lv_iload_n hx hb d_B_crossing_5 rfl (lv_at hl 1 rfl) ?_
    refine lv_iconst (v := (-1)) hx hb d_B_crossing_6 (by decide) ?_
    refine lv_icmp_eq (tgt := 12) hx hb d_B_crossing_7 (by decide) (fun c_2 => ?_) (fun c_2 => ?_)
    · have h := ite_T c_2 h
      exact (k_B_crossing_12 C) _ _ _ _ _ _ _ _ _ _ _ h _ _ _ hP hD hS (lv_sub hl [0, 1, 2, 3, 4, 5] rfl)
    · have h := ite_F c_2 h
      refine lv_iconst (v := (-1)) hx hb d_B_crossing_10 (by decide) ?_
      cases h
      exact W.iret hx hb hr (fun t ht hW => ⟨⟨_, (), rfl, rfl, by rw [ht]; exact hP, va_K.moved hW.alike hK, hD⟩, hS.F ht⟩) hS.2.2 d_B_crossing_11 hlk
set_option maxRecDepth 20000 in
theorem c_B_crossing (l : Launch) (D : va_G) (a : Nat → Nat) (k : Nat → ClassId) (sz : Nat) (x1 : Int32) (x2 : Int32) (x3 : Int32) (x4 : Int32) (x5 : Int32) (lab : Nat → Int32) (sg : Nat → Int32) (cc : Int32) (ci : Int32) (od : Nat → Int32) (sd : Nat → Int32) (go : Nat → Int32) (ta : Nat → Int32) (we : Int32) (oe : Nat → Int32) (fp : Nat → Int32) (ro : Nat → Int64) (sp : Nat → Int64) (qr : Nat) (qs : Nat) (r : Int32 × (Nat → Int32) × (Nat → Int32) × Int32 × (Nat → Int32) × Int32) (h : F_B_crossing x1 x2 x3 x4 x5 lab sg cc od we = some r) : Met l y_B_crossing (Cond.code y_B_crossing b_B_crossing 7 (some .int) :: lw_g) (rm_B_crossing) (va_Pc [.ref (a 0), .int x1, .int x2, .int x3, .int x4, .int x5] (pcW D [(k 1, .int), (k 2, .int), (k 3, .int), (k 4, .int), (k 5, .boolean), (k 6, .int), (k 8, .int), (k 9, .int), (k 11, .long)] (wB a k lab sg cc ci od sd go ta we oe fp ro sp qr qs) sz)) (qc_B_crossing D (va_A (wB a k lab sg cc ci od sd go ta we oe fp ro sp qr qs) sz) a k ci sd go ta oe fp ro sp qr qs r) 0 0 (va_A (wB a k lab sg cc ci od sd go ta we oe fp ro sp qr qs) sz) := by
  refine Met.ofW (cc := b_B_crossing) (maxL := 7) (ret := (some .int)) (by decide) rfl ?_
  intro p e s m args below meth c s₁ B hml hv
  obtain ⟨rfl, hsz, hP, hK, hD0⟩ := hv
  have hts := atoms_spec (ws := Cond.code y_B_crossing b_B_crossing 7 (some .int) :: lw_g) B.pre
  subst hsz
  have hD := hD0.self (sz := s.heap.size)
  have hl := lv_entry ([.ref (a 0), .int x1, .int x2, .int x3, .int x4, .int x5]) (n := 7) (Nat.le_of_ble_eq_true rfl)
  rw [lg_entry_eq]
  generalize (lg_sl ([.ref (a 0), .int x1, .int x2, .int x3, .int x4, .int x5]) ++ List.replicate (7 - (lg_sl ([.ref (a 0), .int x1, .int x2, .int x3, .int x4, .int x5])).length) Slot.unset).toArray = ls at hl ⊢
  exact k_B_crossing_0 ⟨B.exec, B.bytes, B.returns, hml, findClass_of_methodNamed B.named, fun w hw => hts w (List.mem_cons_of_mem _ hw), B.notSynchronized, fun q h => Or.inr h, hK⟩ _ _ _ _ _ _ _ _ _ _ _ h _ _ _ hP hD va_S.rf hl

def rm_B_circles : Room := { frames := 0, cells := 0, slots := 0, locals := 0 }
def qc_B_circles (D : va_G) (A : Nat → Prop) (a : Nat → Nat) (k : Nat → ClassId) (lab : Nat → Int32) (sg : Nat → Int32) (cc : Int32) (od : Nat → Int32) (sd : Nat → Int32) (go : Nat → Int32) (ta : Nat → Int32) (oe : Nat → Int32) (fp : Nat → Int32) (ro : Nat → Int64) (sp : Nat → Int64) (qr : Nat) (qs : Nat) (r : Int32 × Int32 × Int32) : Array Value → State → Outcome → State → Prop := va_Qi (fun (r1 : Int32) (_ : Unit) => r1 = r.1) (poW D [(k 1, .int), (k 2, .int), (k 3, .int), (k 4, .int), (k 5, .boolean), (k 6, .int), (k 8, .int), (k 9, .int), (k 11, .long)] (wB a k lab sg cc r.2.1 od sd go ta r.2.2 oe fp ro sp qr qs) A) A
def J_B_circles_0 (x1 : Int32) (ci : Int32) (we : Int32) : Option (Int32 × Int32 × Int32) :=
  (if x1 < 0 then some ((-1 : Int32), ci, we) else (if x1 ≤ (9 : Int32) then some (ci, x1, (0 : Int32)) else some ((-1 : Int32), ci, we)))
def F_B_circles (x1 : Int32) (ci : Int32) (we : Int32) : Option (Int32 × Int32 × Int32) := J_B_circles_0 x1 ci we
def H_B_circles_0 (p : Program) (l : Launch) (e : Env) (s : State) (m : MethodId) (args : Array Value) (below : List Frame) (meth : Method) (c : Code) (D : va_G) (A : Nat → Prop) (a : Nat → Nat) (k : Nat → ClassId) (lab : Nat → Int32) (sg : Nat → Int32) (cc : Int32) (od : Nat → Int32) (sd : Nat → Int32) (go : Nat → Int32) (ta : Nat → Int32) (oe : Nat → Int32) (fp : Nat → Int32) (ro : Nat → Int64) (sp : Nat → Int64) (qr : Nat) (qs : Nat) (f : Int32 → Int32 → Int32 → Option (Int32 × Int32 × Int32)) : Prop := ∀ (x1 : Int32) (ci : Int32) (we : Int32) (r : Int32 × Int32 × Int32), f x1 ci we = some r → ∀ (H : Heap) (locs : List Loc) (ls : Array Slot), va_P D classes (wB a k lab sg cc ci od sd go ta we oe fp ro sp qr qs) H → va_D A (wB a k lab sg cc ci od sd go ta we oe fp ro sp qr qs) → va_S A s.heap H locs → lv_has ls 3 [(0, .ref (a 0)), (1, .int x1)] → W p l e (rm_B_circles) s m args below meth c H locs 0 0 (MQ below (qc_B_circles D A a k lab sg cc od sd go ta oe fp ro sp qr qs r) args s 0 0 A) (F0 m 0 ls [])
set_option maxHeartbeats 4000000 in
set_option maxRecDepth 100000 in
theorem k_B_circles_0 {p : Program} {l : Launch} {e : Env} {s : State} {m : MethodId} {args : Array Value} {below : List Frame} {meth : Method} {c : Code} {D : va_G} {A : Nat → Prop} {a : Nat → Nat} {k : Nat → ClassId} {lab : Nat → Int32} {sg : Nat → Int32} {cc : Int32} {od : Nat → Int32} {sd : Nat → Int32} {go : Nat → Int32} {ta : Nat → Int32} {oe : Nat → Int32} {fp : Nat → Int32} {ro : Nat → Int64} {sp : Nat → Int64} {qr : Nat} {qs : Nat} (C : cx D [(k 1, .int), (k 2, .int), (k 3, .int), (k 4, .int), (k 5, .boolean), (k 6, .int), (k 8, .int), (k 9, .int), (k 11, .long)] R_B b_B_circles 3 (some .int) A p s m args meth c) : H_B_circles_0 p l e s m args below meth c D A a k lab sg cc od sd go ta oe fp ro sp qr qs (J_B_circles_0) := by
  obtain ⟨hx, hb, hr, hml, hown, ht, hlk, hA, hK⟩ := id C
  intro x1 ci we r h H locs ls hP hD hS hl
  unfold J_B_circles_0 at h
  refine lv_iload_n hx hb d_B_circles_0 rfl (lv_at hl 1 rfl) ?_
  refine lv_if_lt (tgt := 10) hx hb d_B_circles_1 (by decide) (fun c_1 => ?_) (fun c_1 => ?_)
  · have h := ite_T c_1 h
    refine lv_iconst (v := (-1)) hx hb d_B_circles_10 (by decide) ?_
    cases h
    exact W.iret hx hb hr (fun t ht hW => ⟨⟨_, (), rfl, rfl, by rw [ht]; exact hP, va_K.moved hW.alike hK, hD⟩, hS.F ht⟩) hS.2.2 d_B_circles_11 hlk
  · have h := ite_F c_1 h
    refine lv_iload_n hx hb d_B_circles_4 rfl (lv_at hl 1 rfl) ?_
    refine lv_bipush (v := 9) hx hb d_B_circles_5 (by decide) ?_
    refine lv_icmp_le (tgt := 12) hx hb d_B_circles_7 (by decide) (fun c_2 => ?_) (fun c_2 => ?_)
    · have h := ite_T c_2 h
      refine lv_aload_n hx hb d_B_circles_12 rfl (lv_at hl 0 rfl) ?_
      refine va_get (D := D) (ci := 0) (v := .int ci) (C := R_B) (T := F_B) (N := 11) hx hb ht iC_B hown hK hP 0 rfl rfl 3 (by decide) (ht _ ix_54) (fun _ h9 => h9) rfl d_B_circles_13 ?_
      refine lv_istore_n (lv' := [(2, .int ci), (0, .ref (a 0)), (1, .int x1)]) hx hb d_B_circles_16 rfl hl (by decide) rfl (fun ls hl => ?_)
      refine lv_aload_n hx hb d_B_circles_17 rfl (lv_at hl 1 rfl) ?_
      refine lv_iload_n hx hb d_B_circles_18 rfl (lv_at hl 2 rfl) ?_
      refine va_put (D := D) (ci := 0) (v := .int x1) (ty := .int) (C := R_B) (T := F_B) (N := 11) hx hb ht iC_B t_B t_B_ok n_B hown hK hP hD hS 0 rfl rfl 3 (by decide) (ht _ ix_54) (fun _ h9 => h9) rfl (by decide +kernel) rfl rfl (Nat.le_of_ble_eq_true rfl) d_B_circles_19 (fun H locs hP hD hS => ?_)
      have hP : va_P D classes (wB a k lab sg cc x1 od sd go ta we oe fp ro sp qr qs) H := hP
      have hD : va_D A (wB a k lab sg cc x1 od sd go ta we oe fp ro sp qr qs) := hD
      refine lv_aload_n hx hb d_B_circles_22 rfl (lv_at hl 1 rfl) ?_
      refine lv_iconst (v := 0) hx hb d_B_circles_23 (by decide) ?_
      refine va_put (D := D) (ci := 0) (v := .int (0 : Int32)) (ty := .boolean) (C := R_B) (T := F_B) (N := 11) hx hb ht iC_B t_B t_B_ok n_B hown hK hP hD hS 0 rfl rfl 10 (by decide) (ht _ ix_39) (fun _ h9 => h9) rfl (by decide +kernel) rfl rfl (Nat.le_of_ble_eq_true rfl) d_B_circles_24 (fun H locs hP hD hS => ?_)
      have hP : va_P D classes (wB a k lab sg cc x1 od sd go ta (0 : Int32) oe fp ro sp qr qs) H := hP
      have hD : va_D A (wB a k lab sg cc x1 od sd go ta (0 : Int32) oe fp ro sp qr qs) := hD
      refine lv_iload_n hx hb d_B_circles_27 rfl (lv_at hl 0 rfl) ?_
      cases h
      exact W.iret hx hb hr (fun t ht hW => ⟨⟨_, (), rfl, rfl, by rw [ht]; exact hP, va_K.moved hW.alike hK, hD⟩, hS.F ht⟩) hS.2.2 d_B_circles_28 hlk
    · have h := ite_F c_2 h
      refine lv_iconst (v := (-1)) hx hb d_B_circles_10 (by decide) ?_
      cases h
      exact W.iret hx hb hr (fun t ht hW => ⟨⟨_, (), rfl, rfl, by rw [ht]; exact hP, va_K.moved hW.alike hK, hD⟩, hS.F ht⟩) hS.2.2 d_B_circles_11 hlk
set_option maxRecDepth 20000 in
theorem c_B_circles (l : Launch) (D : va_G) (a : Nat → Nat) (k : Nat → ClassId) (sz : Nat) (x1 : Int32) (lab : Nat → Int32) (sg : Nat → Int32) (cc : Int32) (ci : Int32) (od : Nat → Int32) (sd : Nat → Int32) (go : Nat → Int32) (ta : Nat → Int32) (we : Int32) (oe : Nat → Int32) (fp : Nat → Int32) (ro : Nat → Int64) (sp : Nat → Int64) (qr : Nat) (qs : Nat) (r : Int32 × Int32 × Int32) (h : F_B_circles x1 ci we = some r) : Met l y_B_circles (Cond.code y_B_circles b_B_circles 3 (some .int) :: lw_g) (rm_B_circles) (va_Pc [.ref (a 0), .int x1] (pcW D [(k 1, .int), (k 2, .int), (k 3, .int), (k 4, .int), (k 5, .boolean), (k 6, .int), (k 8, .int), (k 9, .int), (k 11, .long)] (wB a k lab sg cc ci od sd go ta we oe fp ro sp qr qs) sz)) (qc_B_circles D (va_A (wB a k lab sg cc ci od sd go ta we oe fp ro sp qr qs) sz) a k lab sg cc od sd go ta oe fp ro sp qr qs r) 0 0 (va_A (wB a k lab sg cc ci od sd go ta we oe fp ro sp qr qs) sz) := by
  refine Met.ofW (cc := b_B_circles) (maxL := 3) (ret := (some .int)) (by decide) rfl ?_
  intro p e s m args below meth c s₁ B hml hv
  obtain ⟨rfl, hsz, hP, hK, hD0⟩ := hv
  have hts := atoms_spec (ws := Cond.code y_B_circles b_B_circles 3 (some .int) :: lw_g) B.pre
  subst hsz
  have hD := hD0.self (sz := s.heap.size)
  have hl := lv_entry ([.ref (a 0), .int x1]) (n := 3) (Nat.le_of_ble_eq_true rfl)
  rw [lg_entry_eq]
  generalize (lg_sl ([.ref (a 0), .int x1]) ++ List.replicate (3 - (lg_sl ([.ref (a 0), .int x1])).length) Slot.unset).toArray = ls at hl ⊢
  exact k_B_circles_0 ⟨B.exec, B.bytes, B.returns, hml, findClass_of_methodNamed B.named, fun w hw => hts w (List.mem_cons_of_mem _ hw), B.notSynchronized, fun q h => Or.inr h, hK⟩ _ _ _ _ h _ _ _ hP hD va_S.rf hl

def rm_B_clear : Room := { frames := 1, cells := 0, slots := 0, locals := 21 }
def qc_B_clear (D : va_G) (A : Nat → Prop) (a : Nat → Nat) (k : Nat → ClassId) (lab : Nat → Int32) (sg : Nat → Int32) (sd : Nat → Int32) (go : Nat → Int32) (ta : Nat → Int32) (oe : Nat → Int32) (fp : Nat → Int32) (ro : Nat → Int64) (sp : Nat → Int64) (qr : Nat) (qs : Nat) (r : Int32 × Int32 × Int32 × (Nat → Int32) × Int32) : Array Value → State → Outcome → State → Prop := va_Qi (fun (r1 : Int32) (_ : Unit) => r1 = r.1) (poW D [(k 1, .int), (k 2, .int), (k 3, .int), (k 4, .int), (k 5, .boolean), (k 6, .int), (k 8, .int), (k 9, .int), (k 11, .long)] (wB a k lab sg r.2.1 r.2.2.1 r.2.2.2.1 sd go ta r.2.2.2.2 oe fp ro sp qr qs) A) A
def J_B_clear_0 (cc : Int32) (ci : Int32) (od : Nat → Int32) (we : Int32) : Option (Int32 × Int32 × Int32 × (Nat → Int32) × Int32) :=
  (Option.bind (F_B_orderAsGiven od we) (fun v_1 => some (cc, (0 : Int32), (0 : Int32), v_1.1, v_1.2)))
def F_B_clear (cc : Int32) (ci : Int32) (od : Nat → Int32) (we : Int32) : Option (Int32 × Int32 × Int32 × (Nat → Int32) × Int32) := J_B_clear_0 cc ci od we
def H_B_clear_0 (p : Program) (l : Launch) (e : Env) (s : State) (m : MethodId) (args : Array Value) (below : List Frame) (meth : Method) (c : Code) (D : va_G) (A : Nat → Prop) (a : Nat → Nat) (k : Nat → ClassId) (lab : Nat → Int32) (sg : Nat → Int32) (sd : Nat → Int32) (go : Nat → Int32) (ta : Nat → Int32) (oe : Nat → Int32) (fp : Nat → Int32) (ro : Nat → Int64) (sp : Nat → Int64) (qr : Nat) (qs : Nat) (f : Int32 → Int32 → (Nat → Int32) → Int32 → Option (Int32 × Int32 × Int32 × (Nat → Int32) × Int32)) : Prop := ∀ (cc : Int32) (ci : Int32) (od : Nat → Int32) (we : Int32) (r : Int32 × Int32 × Int32 × (Nat → Int32) × Int32), f cc ci od we = some r → ∀ (H : Heap) (locs : List Loc) (ls : Array Slot), va_P D classes (wB a k lab sg cc ci od sd go ta we oe fp ro sp qr qs) H → va_D A (wB a k lab sg cc ci od sd go ta we oe fp ro sp qr qs) → va_S A s.heap H locs → lv_has ls 2 [(0, .ref (a 0))] → W p l e (rm_B_clear) s m args below meth c H locs 0 0 (MQ below (qc_B_clear D A a k lab sg sd go ta oe fp ro sp qr qs r) args s 0 0 A) (F0 m 0 ls [])
set_option maxHeartbeats 4000000 in
set_option maxRecDepth 100000 in
theorem k_B_clear_0 {p : Program} {l : Launch} {e : Env} {s : State} {m : MethodId} {args : Array Value} {below : List Frame} {meth : Method} {c : Code} {D : va_G} {A : Nat → Prop} {a : Nat → Nat} {k : Nat → ClassId} {lab : Nat → Int32} {sg : Nat → Int32} {sd : Nat → Int32} {go : Nat → Int32} {ta : Nat → Int32} {oe : Nat → Int32} {fp : Nat → Int32} {ro : Nat → Int64} {sp : Nat → Int64} {qr : Nat} {qs : Nat} (C : cx D [(k 1, .int), (k 2, .int), (k 3, .int), (k 4, .int), (k 5, .boolean), (k 6, .int), (k 8, .int), (k 9, .int), (k 11, .long)] R_B b_B_clear 2 (some .int) A p s m args meth c) : H_B_clear_0 p l e s m args below meth c D A a k lab sg sd go ta oe fp ro sp qr qs (J_B_clear_0) := by
  obtain ⟨hx, hb, hr, hml, hown, ht, hlk, hA, hK⟩ := id C
  intro cc ci od we r h H locs ls hP hD hS hl
  unfold J_B_clear_0 at h
  refine lv_aload_n hx hb d_B_clear_0 rfl (lv_at hl 0 rfl) ?_
  refine va_get (D := D) (ci := 0) (v := .int cc) (C := R_B) (T := F_B) (N := 11) hx hb ht iC_B hown hK hP 0 rfl rfl 2 (by decide) (ht _ ix_38) (fun _ h9 => h9) rfl d_B_clear_1 ?_
  refine lv_istore_n (lv' := [(1, .int cc), (0, .ref (a 0))]) hx hb d_B_clear_4 rfl hl (by decide) rfl (fun ls hl => ?_)
  refine lv_aload_n hx hb d_B_clear_5 rfl (lv_at hl 1 rfl) ?_
  refine lv_iconst (v := 0) hx hb d_B_clear_6 (by decide) ?_
  refine va_put (D := D) (ci := 0) (v := .int (0 : Int32)) (ty := .int) (C := R_B) (T := F_B) (N := 11) hx hb ht iC_B t_B t_B_ok n_B hown hK hP hD hS 0 rfl rfl 2 (by decide) (ht _ ix_38) (fun _ h9 => h9) rfl (by decide +kernel) rfl rfl (Nat.le_of_ble_eq_true rfl) d_B_clear_7 (fun H locs hP hD hS => ?_)
  have hP : va_P D classes (wB a k lab sg (0 : Int32) ci od sd go ta we oe fp ro sp qr qs) H := hP
  have hD : va_D A (wB a k lab sg (0 : Int32) ci od sd go ta we oe fp ro sp qr qs) := hD
  refine lv_aload_n hx hb d_B_clear_10 rfl (lv_at hl 1 rfl) ?_
  refine lv_iconst (v := 0) hx hb d_B_clear_11 (by decide) ?_
  refine va_put (D := D) (ci := 0) (v := .int (0 : Int32)) (ty := .int) (C := R_B) (T := F_B) (N := 11) hx hb ht iC_B t_B t_B_ok n_B hown hK hP hD hS 0 rfl rfl 3 (by decide) (ht _ ix_54) (fun _ h9 => h9) rfl (by decide +kernel) rfl rfl (Nat.le_of_ble_eq_true rfl) d_B_clear_12 (fun H locs hP hD hS => ?_)
  have hP : va_P D classes (wB a k lab sg (0 : Int32) (0 : Int32) od sd go ta we oe fp ro sp qr qs) H := hP
  have hD : va_D A (wB a k lab sg (0 : Int32) (0 : Int32) od sd go ta we oe fp ro sp qr qs) := hD
  refine lv_aload_n hx hb d_B_clear_15 rfl (lv_at hl 1 rfl) ?_
  obtain ⟨v_1, e_1, h⟩ := bd_some h
  refine go_Vv (As := []) (rest := []) (wc := (wB a k lab sg (0 : Int32) (0 : Int32) od sd go ta we oe fp ro sp qr qs)) (wr := []) (w1 := (wB a k lab sg (0 : Int32) (0 : Int32) v_1.1 sd go ta v_1.2 oe fp ro sp qr qs)) (w2 := (wB a k lab sg (0 : Int32) (0 : Int32) v_1.1 sd go ta v_1.2 oe fp ro sp qr qs)) (tc := [(k 1, .int), (k 2, .int), (k 3, .int), (k 4, .int), (k 5, .boolean), (k 6, .int), (k 8, .int), (k 9, .int), (k 11, .long)]) hx hb hml hown ht (c_B_orderAsGiven l D a k H.size lab sg (0 : Int32) (0 : Int32) od sd go ta we oe fp ro sp qr qs v_1 e_1) g_B_54 ⟨rfl, rfl⟩ (n := 0) (by decide +kernel) ⟨(Nat.le_of_ble_eq_true rfl), (Nat.le_of_ble_eq_true rfl)⟩ hP hD hK hS hA ⟨Nat.zero_le _, Nat.zero_le _⟩ [0, 1, 2, 3, 4, 5, 6, 7, 8, 9, 10, 11, 12] [] [0, 1, 2, 3, 4, 5, 6, 7, 8] [0, 1, 2, 3, 4, 5, 6, 7, 8, 9, 10, 11, 12] rfl rfl rfl rfl (by decide) (by decide) (by decide) rfl (by decide) 0 rfl rfl rfl rfl rfl hl.1 (Nat.le_of_ble_eq_true rfl) d_B_clear_16 (fun H locs hP hD hS => ?_)
  refine lv_iload_n hx hb d_B_clear_19 rfl (lv_at hl 0 rfl) ?_
  cases h
  exact W.iret hx hb hr (fun t ht hW => ⟨⟨_, (), rfl, rfl, by rw [ht]; exact hP, va_K.moved hW.alike hK, hD⟩, hS.F ht⟩) hS.2.2 d_B_clear_20 hlk
set_option maxRecDepth 20000 in
theorem c_B_clear (l : Launch) (D : va_G) (a : Nat → Nat) (k : Nat → ClassId) (sz : Nat) (lab : Nat → Int32) (sg : Nat → Int32) (cc : Int32) (ci : Int32) (od : Nat → Int32) (sd : Nat → Int32) (go : Nat → Int32) (ta : Nat → Int32) (we : Int32) (oe : Nat → Int32) (fp : Nat → Int32) (ro : Nat → Int64) (sp : Nat → Int64) (qr : Nat) (qs : Nat) (r : Int32 × Int32 × Int32 × (Nat → Int32) × Int32) (h : F_B_clear cc ci od we = some r) : Met l y_B_clear (Cond.code y_B_clear b_B_clear 2 (some .int) :: lw_g) (rm_B_clear) (va_Pc [.ref (a 0)] (pcW D [(k 1, .int), (k 2, .int), (k 3, .int), (k 4, .int), (k 5, .boolean), (k 6, .int), (k 8, .int), (k 9, .int), (k 11, .long)] (wB a k lab sg cc ci od sd go ta we oe fp ro sp qr qs) sz)) (qc_B_clear D (va_A (wB a k lab sg cc ci od sd go ta we oe fp ro sp qr qs) sz) a k lab sg sd go ta oe fp ro sp qr qs r) 0 0 (va_A (wB a k lab sg cc ci od sd go ta we oe fp ro sp qr qs) sz) := by
  refine Met.ofW (cc := b_B_clear) (maxL := 2) (ret := (some .int)) (by decide) rfl ?_
  intro p e s m args below meth c s₁ B hml hv
  obtain ⟨rfl, hsz, hP, hK, hD0⟩ := hv
  have hts := atoms_spec (ws := Cond.code y_B_clear b_B_clear 2 (some .int) :: lw_g) B.pre
  subst hsz
  have hD := hD0.self (sz := s.heap.size)
  have hl := lv_entry ([.ref (a 0)]) (n := 2) (Nat.le_of_ble_eq_true rfl)
  rw [lg_entry_eq]
  generalize (lg_sl ([.ref (a 0)]) ++ List.replicate (2 - (lg_sl ([.ref (a 0)])).length) Slot.unset).toArray = ls at hl ⊢
  exact k_B_clear_0 ⟨B.exec, B.bytes, B.returns, hml, findClass_of_methodNamed B.named, fun w hw => hts w (List.mem_cons_of_mem _ hw), B.notSynchronized, fun q h => Or.inr h, hK⟩ _ _ _ _ _ h _ _ _ hP hD va_S.rf hl

def rm_B_sweep : Room := { frames := 4, cells := 0, slots := 0, locals := 85 }
def qc_B_sweep (D : va_G) (A : Nat → Prop) (a : Nat → Nat) (k : Nat → ClassId) (lab : Nat → Int32) (sg : Nat → Int32) (cc : Int32) (ci : Int32) (ta : Nat → Int32) (oe : Nat → Int32) (fp : Nat → Int32) (ro : Nat → Int64) (sp : Nat → Int64) (qr : Nat) (qs : Nat) (r : Int32 × (Nat → Int32) × (Nat → Int32) × (Nat → Int32) × Int32) : Array Value → State → Outcome → State → Prop := va_Qi (fun (r1 : Int32) (_ : Unit) => r1 = r.1) (poW D [(k 1, .int), (k 2, .int), (k 3, .int), (k 4, .int), (k 5, .boolean), (k 6, .int), (k 8, .int), (k 9, .int), (k 11, .long)] (wB a k lab sg cc ci r.2.1 r.2.2.1 r.2.2.2.1 ta r.2.2.2.2 oe fp ro sp qr qs) A) A
def J_B_sweep_50 (rec28 : Int32 → Int32 → Int32 → Int32 → (Nat → Int32) → Int32 → (Nat → Int32) → (Nat → Int32) → (Nat → Int32) → Int32 → Option (Int32 × (Nat → Int32) × (Nat → Int32) × (Nat → Int32) × Int32)) (x1 : Int32) (x2 : Int32) (x3 : Int32) (x4 : Int32) (y0 : Int32) (lab : Nat → Int32) (cc : Int32) (od : Nat → Int32) (sd : Nat → Int32) (go : Nat → Int32) (we : Int32) : Option (Int32 × (Nat → Int32) × (Nat → Int32) × (Nat → Int32) × Int32) :=
  (Option.bind (F_B_goOver y0 lab sd go) (fun v_1 => (if inb x4 10 then rec28 x1 (x2 + v_1.1) (if x3 < (x2 + v_1.1) then (x2 + v_1.1) else x3) (x4 + 1) lab cc (upd od x4.toNatClampNeg y0) v_1.2.1 v_1.2.2 we else none)))
def J_B_sweep_28 (rec28 : Int32 → Int32 → Int32 → Int32 → (Nat → Int32) → Int32 → (Nat → Int32) → (Nat → Int32) → (Nat → Int32) → Int32 → Option (Int32 × (Nat → Int32) × (Nat → Int32) × (Nat → Int32) × Int32)) (x1 : Int32) (x2 : Int32) (x3 : Int32) (x4 : Int32) (lab : Nat → Int32) (cc : Int32) (od : Nat → Int32) (sd : Nat → Int32) (go : Nat → Int32) (we : Int32) : Option (Int32 × (Nat → Int32) × (Nat → Int32) × (Nat → Int32) × Int32) :=
  (if cc ≤ x4 then some (x3, od, sd, go, (0 : Int32)) else (if x4 = 0 then J_B_sweep_50 rec28 x1 x2 x3 x4 x1 lab cc od sd go we else (Option.bind (F_B_mostJoined lab cc sd go) (fun v_3 => J_B_sweep_50 rec28 x1 x2 x3 x4 v_3 lab cc od sd go we))))
def L_B_sweep_28 : Nat → Int32 → Int32 → Int32 → Int32 → (Nat → Int32) → Int32 → (Nat → Int32) → (Nat → Int32) → (Nat → Int32) → Int32 → Option (Int32 × (Nat → Int32) × (Nat → Int32) × (Nat → Int32) × Int32)
  | 0 => fun _ _ _ _ _ _ _ _ _ _ => none
  | n + 1 => J_B_sweep_28 (L_B_sweep_28 n)
def J_B_sweep_0 (x1 : Int32) (lab : Nat → Int32) (cc : Int32) (od : Nat → Int32) (sd : Nat → Int32) (go : Nat → Int32) (we : Int32) : Option (Int32 × (Nat → Int32) × (Nat → Int32) × (Nat → Int32) × Int32) :=
  (Option.bind (F_B_isCrossing x1 cc) (fun v_1 => (if v_1 = 0 then some ((-1 : Int32), od, sd, go, we) else (Option.bind (F_B_isCode lab cc sd) (fun v_3 => (if v_3.1 = 0 then some ((-1 : Int32), od, v_3.2, go, we) else (Option.bind (F_B_goOverNone v_3.2 go) (fun v_5 => L_B_sweep_28 fu x1 (0 : Int32) (0 : Int32) (0 : Int32) lab cc od v_5.1 v_5.2 we))))))))
def F_B_sweep (x1 : Int32) (lab : Nat → Int32) (cc : Int32) (od : Nat → Int32) (sd : Nat → Int32) (go : Nat → Int32) (we : Int32) : Option (Int32 × (Nat → Int32) × (Nat → Int32) × (Nat → Int32) × Int32) := J_B_sweep_0 x1 lab cc od sd go we
def H_B_sweep_50 (p : Program) (l : Launch) (e : Env) (s : State) (m : MethodId) (args : Array Value) (below : List Frame) (meth : Method) (c : Code) (D : va_G) (A : Nat → Prop) (a : Nat → Nat) (k : Nat → ClassId) (sg : Nat → Int32) (ci : Int32) (ta : Nat → Int32) (oe : Nat → Int32) (fp : Nat → Int32) (ro : Nat → Int64) (sp : Nat → Int64) (qr : Nat) (qs : Nat) (f : Int32 → Int32 → Int32 → Int32 → Int32 → (Nat → Int32) → Int32 → (Nat → Int32) → (Nat → Int32) → (Nat → Int32) → Int32 → Option (Int32 × (Nat → Int32) × (Nat → Int32) × (Nat → Int32) × Int32)) : Prop := ∀ (x1 : Int32) (x2 : Int32) (x3 : Int32) (x4 : Int32) (y0 : Int32) (lab : Nat → Int32) (cc : Int32) (od : Nat → Int32) (sd : Nat → Int32) (go : Nat → Int32) (we : Int32) (r : Int32 × (Nat → Int32) × (Nat → Int32) × (Nat → Int32) × Int32), f x1 x2 x3 x4 y0 lab cc od sd go we = some r → ∀ (H : Heap) (locs : List Loc) (ls : Array Slot), va_P D classes (wB a k lab sg cc ci od sd go ta we oe fp ro sp qr qs) H → va_D A (wB a k lab sg cc ci od sd go ta we oe fp ro sp qr qs) → va_S A s.heap H locs → lv_has ls 6 [(0, .ref (a 0)), (1, .int x1), (2, .int x2), (3, .int x3), (4, .int x4)] → W p l e (rm_B_sweep) s m args below meth c H locs 0 0 (MQ below (qc_B_sweep D A a k lab sg cc ci ta oe fp ro sp qr qs r) args s 0 0 A) (F0 m 50 ls [.int y0])
def H_B_sweep_28 (p : Program) (l : Launch) (e : Env) (s : State) (m : MethodId) (args : Array Value) (below : List Frame) (meth : Method) (c : Code) (D : va_G) (A : Nat → Prop) (a : Nat → Nat) (k : Nat → ClassId) (sg : Nat → Int32) (ci : Int32) (ta : Nat → Int32) (oe : Nat → Int32) (fp : Nat → Int32) (ro : Nat → Int64) (sp : Nat → Int64) (qr : Nat) (qs : Nat) (f : Int32 → Int32 → Int32 → Int32 → (Nat → Int32) → Int32 → (Nat → Int32) → (Nat → Int32) → (Nat → Int32) → Int32 → Option (Int32 × (Nat → Int32) × (Nat → Int32) × (Nat → Int32) × Int32)) : Prop := ∀ (x1 : Int32) (x2 : Int32) (x3 : Int32) (x4 : Int32) (lab : Nat → Int32) (cc : Int32) (od : Nat → Int32) (sd : Nat → Int32) (go : Nat → Int32) (we : Int32) (r : Int32 × (Nat → Int32) × (Nat → Int32) × (Nat → Int32) × Int32), f x1 x2 x3 x4 lab cc od sd go we = some r → ∀ (H : Heap) (locs : List Loc) (ls : Array Slot), va_P D classes (wB a k lab sg cc ci od sd go ta we oe fp ro sp qr qs) H → va_D A (wB a k lab sg cc ci od sd go ta we oe fp ro sp qr qs) → va_S A s.heap H locs → lv_has ls 6 [(0, .ref (a 0)), (1, .int x1), (2, .int x2), (3, .int x3), (4, .int x4)] → W p l e (rm_B_sweep) s m args below meth c H locs 0 0 (MQ below (qc_B_sweep D A a k lab sg cc ci ta oe fp ro sp qr qs r) args s 0 0 A) (F0 m 28 ls [])
def H_B_sweep_0 (p : Program) (l : Launch) (e : Env) (s : State) (m : MethodId) (args : Array Value) (below : List Frame) (meth : Method) (c : Code) (D : va_G) (A : Nat → Prop) (a : Nat → Nat) (k : Nat → ClassId) (sg : Nat → Int32) (ci : Int32) (ta : Nat → Int32) (oe : Nat → Int32) (fp : Nat → Int32) (ro : Nat → Int64) (sp : Nat → Int64) (qr : Nat) (qs : Nat) (f : Int32 → (Nat → Int32) → Int32 → (Nat → Int32) → (Nat → Int32) → (Nat → Int32) → Int32 → Option (Int32 × (Nat → Int32) × (Nat → Int32) × (Nat → Int32) × Int32)) : Prop := ∀ (x1 : Int32) (lab : Nat → Int32) (cc : Int32) (od : Nat → Int32) (sd : Nat → Int32) (go : Nat → Int32) (we : Int32) (r : Int32 × (Nat → Int32) × (Nat → Int32) × (Nat → Int32) × Int32), f x1 lab cc od sd go we = some r → ∀ (H : Heap) (locs : List Loc) (ls : Array Slot), va_P D classes (wB a k lab sg cc ci od sd go ta we oe fp ro sp qr qs) H → va_D A (wB a k lab sg cc ci od sd go ta we oe fp ro sp qr qs) → va_S A s.heap H locs → lv_has ls 6 [(0, .ref (a 0)), (1, .int x1)] → W p l e (rm_B_sweep) s m args below meth c H locs 0 0 (MQ below (qc_B_sweep D A a k lab sg cc ci ta oe fp ro sp qr qs r) args s 0 0 A) (F0 m 0 ls [])
set_option maxHeartbeats 4000000 in
set_option maxRecDepth 100000 in
theorem k_B_sweep_50 {p : Program} {l : Launch} {e : Env} {s : State} {m : MethodId} {args : Array Value} {below : List Frame} {meth : Method} {c : Code} {D : va_G} {A : Nat → Prop} {a : Nat → Nat} {k : Nat → ClassId} {sg : Nat → Int32} {ci : Int32} {ta : Nat → Int32} {oe : Nat → Int32} {fp : Nat → Int32} {ro : Nat → Int64} {sp : Nat → Int64} {qr : Nat} {qs : Nat} {rec28 : Int32 → Int32 → Int32 → Int32 → (Nat → Int32) → Int32 → (Nat → Int32) → (Nat → Int32) → (Nat → Int32) → Int32 → Option (Int32 × (Nat → Int32) × (Nat → Int32) × (Nat → Int32) × Int32)} (C : cx D [(k 1, .int), (k 2, .int), (k 3, .int), (k 4, .int), (k 5, .boolean), (k 6, .int), (k 8, .int), (k 9, .int), (k 11, .long)] R_B b_B_sweep 6 (some .int) A p s m args meth c) (hrec28 : H_B_sweep_28 p l e s m args below meth c D A a k sg ci ta oe fp ro sp qr qs rec28) : H_B_sweep_50 p l e s m args below meth c D A a k sg ci ta oe fp ro sp qr qs (J_B_sweep_50 rec28) := by
  obtain ⟨hx, hb, hr, hml, hown, ht, hlk, hA, hK⟩ := id C
  intro x1 x2 x3 x4 y0 lab cc od sd go we r h H locs ls hP hD hS hl
  unfold J_B_sweep_50 at h
  refine lv_istore (lv' := [(5, .int y0), (0, .ref (a 0)), (1, .int x1), (2, .int x2), (3, .int x3), (4, .int x4)]) hx hb d_B_sweep_50 hl (by decide) rfl (fun ls hl => ?_)
  refine lv_iload_n hx hb d_B_sweep_52 rfl (lv_at hl 3 rfl) ?_
  refine lv_aload_n hx hb d_B_sweep_53 rfl (lv_at hl 1 rfl) ?_
  refine lv_iload hx hb d_B_sweep_54 (lv_at hl 0 rfl) ?_
  obtain ⟨v_1, e_1, h⟩ := bd_some h
  refine go_Vi (r := v_1.1) (As := [.int y0]) (rest := [.int x2]) (wc := (wB a k lab sg cc ci od sd go ta we oe fp ro sp qr qs)) (wr := []) (w1 := (wB a k lab sg cc ci od v_1.2.1 v_1.2.2 ta we oe fp ro sp qr qs)) (w2 := (wB a k lab sg cc ci od v_1.2.1 v_1.2.2 ta we oe fp ro sp qr qs)) (tc := [(k 1, .int), (k 2, .int), (k 3, .int), (k 4, .int), (k 5, .boolean), (k 6, .int), (k 8, .int), (k 9, .int), (k 11, .long)]) hx hb hml hown ht (c_B_goOver l D a k H.size y0 lab sg cc ci od sd go ta we oe fp ro sp qr qs v_1 e_1) g_B_78 ⟨rfl, rfl⟩ (n := 1) (by decide +kernel) ⟨(Nat.le_of_ble_eq_true rfl), (Nat.le_of_ble_eq_true rfl)⟩ hP hD hK hS hA ⟨Nat.zero_le _, Nat.zero_le _⟩ [0, 1, 2, 3, 4, 5, 6, 7, 8, 9, 10, 11, 12] [] [0, 1, 2, 3, 4, 5, 6, 7, 8] [0, 1, 2, 3, 4, 5, 6, 7, 8, 9, 10, 11, 12] rfl rfl rfl rfl (by decide) (by decide) (by decide) rfl (by decide) 0 rfl rfl rfl rfl rfl hl.1 (Nat.le_of_ble_eq_true rfl) d_B_sweep_56 (fun H locs hP hD hS => ?_)
  refine lv_iadd hx hb d_B_sweep_59 ?_
  refine lv_istore_n (lv' := [(2, .int (x2 + v_1.1)), (5, .int y0), (0, .ref (a 0)), (1, .int x1), (3, .int x3), (4, .int x4)]) hx hb d_B_sweep_60 rfl hl (by decide) rfl (fun ls hl => ?_)
  refine lv_iload_n hx hb d_B_sweep_61 rfl (lv_at hl 4 rfl) ?_
  refine lv_iload_n hx hb d_B_sweep_62 rfl (lv_at hl 0 rfl) ?_
  refine va_mmax hx hb (by rw [hml]; exact hl.1.symm) hown (ht _ ix_0) (ht _ ix_1) (ht _ ix_2) (ht _ ix_3) (Nat.le_of_ble_eq_true rfl) (Nat.le_of_ble_eq_true rfl) (Nat.zero_le _) (Nat.zero_le _) d_B_sweep_63 ?_
  refine lv_istore_n (lv' := [(3, .int (if x3 < (x2 + v_1.1) then (x2 + v_1.1) else x3)), (2, .int (x2 + v_1.1)), (5, .int y0), (0, .ref (a 0)), (1, .int x1), (4, .int x4)]) hx hb d_B_sweep_66 rfl hl (by decide) rfl (fun ls hl => ?_)
  refine lv_aload_n hx hb d_B_sweep_67 rfl (lv_at hl 3 rfl) ?_
  refine va_get (D := D) (ci := 0) (v := .ref (a 3)) (C := R_B) (T := F_B) (N := 11) hx hb ht iC_B hown hK hP 0 rfl rfl 4 (by decide) (ht _ ix_40) (fun _ h9 => h9) rfl d_B_sweep_68 ?_
  refine lv_iload hx hb d_B_sweep_71 (lv_at hl 5 rfl) ?_
  refine lv_iload hx hb d_B_sweep_73 (lv_at hl 2 rfl) ?_
  obtain ⟨g_2, h⟩ := gd_some h
  refine va_iast hx hb hK hP hD hS 3 2 rfl rfl (inb_in g_2) d_B_sweep_75 (fun H locs hP hD hS => ?_)
  have hP : va_P D classes (wB a k lab sg cc ci (upd od x4.toNatClampNeg y0) v_1.2.1 v_1.2.2 ta we oe fp ro sp qr qs) H := hP
  have hD : va_D A (wB a k lab sg cc ci (upd od x4.toNatClampNeg y0) v_1.2.1 v_1.2.2 ta we oe fp ro sp qr qs) := hD
  refine lv_iinc (v := x4 + 1) (lv' := [(4, .int (x4 + 1)), (3, .int (if x3 < (x2 + v_1.1) then (x2 + v_1.1) else x3)), (2, .int (x2 + v_1.1)), (5, .int y0), (0, .ref (a 0)), (1, .int x1)]) hx hb d_B_sweep_76 hl (k := 5) rfl rfl (by decide) rfl (fun ls hl => ?_)
  refine lv_goto (tgt := 28) hx hb d_B_sweep_79 (by decide) ?_
  exact hrec28 _ _ _ _ _ _ _ _ _ _ _ h _ _ _ hP hD hS (lv_sub hl [4, 5, 2, 1, 0] rfl)
set_option maxHeartbeats 4000000 in
set_option maxRecDepth 100000 in
theorem k_B_sweep_28 {p : Program} {l : Launch} {e : Env} {s : State} {m : MethodId} {args : Array Value} {below : List Frame} {meth : Method} {c : Code} {D : va_G} {A : Nat → Prop} {a : Nat → Nat} {k : Nat → ClassId} {sg : Nat → Int32} {ci : Int32} {ta : Nat → Int32} {oe : Nat → Int32} {fp : Nat → Int32} {ro : Nat → Int64} {sp : Nat → Int64} {qr : Nat} {qs : Nat} {rec28 : Int32 → Int32 → Int32 → Int32 → (Nat → Int32) → Int32 → (Nat → Int32) → (Nat → Int32) → (Nat → Int32) → Int32 → Option (Int32 × (Nat → Int32) × (Nat → Int32) × (Nat → Int32) × Int32)} (C : cx D [(k 1, .int), (k 2, .int), (k 3, .int), (k 4, .int), (k 5, .boolean), (k 6, .int), (k 8, .int), (k 9, .int), (k 11, .long)] R_B b_B_sweep 6 (some .int) A p s m args meth c) (hrec28 : H_B_sweep_28 p l e s m args below meth c D A a k sg ci ta oe fp ro sp qr qs rec28) : H_B_sweep_28 p l e s m args below meth c D A a k sg ci ta oe fp ro sp qr qs (J_B_sweep_28 rec28) := by
  obtain ⟨hx, hb, hr, hml, hown, ht, hlk, hA, hK⟩ := id C
  intro x1 x2 x3 x4 lab cc od sd go we r h H locs ls hP hD hS hl
  unfold J_B_sweep_28 at h
  refine lv_iload hx hb d_B_sweep_28 (lv_at hl 4 rfl) ?_
  refine lv_aload_n hx hb d_B_sweep_30 rfl (lv_at hl 0 rfl) ?_
  refine va_get (D := D) (ci := 0) (v := .int cc) (C := R_B) (T := F_B) (N := 11) hx hb ht iC_B hown hK hP 0 rfl rfl 2 (by decide) (ht _ ix_38) (fun _ h9 => h9) rfl d_B_sweep_31 ?_
  refine lv_icmp_ge (tgt := 82) hx hb d_B_sweep_34 (by decide) (fun c_1 => ?_) (fun c_1 => ?_)
  · have h := ite_T c_1 h
    refine lv_aload_n hx hb d_B_sweep_82 rfl (lv_at hl 0 rfl) ?_
    refine lv_iconst (v := 0) hx hb d_B_sweep_83 (by decide) ?_
    refine va_put (D := D) (ci := 0) (v := .int (0 : Int32)) (ty := .boolean) (C := R_B) (T := F_B) (N := 11) hx hb ht iC_B t_B t_B_ok n_B hown hK hP hD hS 0 rfl rfl 10 (by decide) (ht _ ix_39) (fun _ h9 => h9) rfl (by decide +kernel) rfl rfl (Nat.le_of_ble_eq_true rfl) d_B_sweep_84 (fun H locs hP hD hS => ?_)
    have hP : va_P D classes (wB a k lab sg cc ci od sd go ta (0 : Int32) oe fp ro sp qr qs) H := hP
    have hD : va_D A (wB a k lab sg cc ci od sd go ta (0 : Int32) oe fp ro sp qr qs) := hD
    refine lv_iload_n hx hb d_B_sweep_87 rfl (lv_at hl 3 rfl) ?_
    cases h
    exact W.iret hx hb hr (fun t ht hW => ⟨⟨_, (), rfl, rfl, by rw [ht]; exact hP, va_K.moved hW.alike hK, hD⟩, hS.F ht⟩) hS.2.2 d_B_sweep_88 hlk
  · have h := ite_F c_1 h
    refine lv_iload hx hb d_B_sweep_37 (lv_at hl 4 rfl) ?_
    refine lv_if_ne (tgt := 46) hx hb d_B_sweep_39 (by decide) (fun c_2 => ?_) (fun c_2 => ?_)
    · have h := ite_F c_2 h
      refine lv_aload_n hx hb d_B_sweep_46 rfl (lv_at hl 0 rfl) ?_
      obtain ⟨v_3, e_3, h⟩ := bd_some h
      refine go_Vi (r := v_3) (As := []) (rest := []) (wc := (wB a k lab sg cc ci od sd go ta we oe fp ro sp qr qs)) (wr := []) (w1 := (wB a k lab sg cc ci od sd go ta we oe fp ro sp qr qs)) (w2 := (wB a k lab sg cc ci od sd go ta we oe fp ro sp qr qs)) (tc := [(k 1, .int), (k 2, .int), (k 3, .int), (k 4, .int), (k 5, .boolean), (k 6, .int), (k 8, .int), (k 9, .int), (k 11, .long)]) hx hb hml hown ht (c_B_mostJoined l D a k H.size lab sg cc ci od sd go ta we oe fp ro sp qr qs v_3 e_3) g_B_74 ⟨rfl, rfl⟩ (n := 0) (by decide +kernel) ⟨(Nat.le_of_ble_eq_true rfl), (Nat.le_of_ble_eq_true rfl)⟩ hP hD hK hS hA ⟨Nat.zero_le _, Nat.zero_le _⟩ [0, 1, 2, 3, 4, 5, 6, 7, 8, 9, 10, 11, 12] [] [0, 1, 2, 3, 4, 5, 6, 7, 8] [0, 1, 2, 3, 4, 5, 6, 7, 8, 9, 10, 11, 12] rfl rfl rfl rfl (by decide) (by decide) (by decide) rfl (by decide) 0 rfl rfl rfl rfl rfl hl.1 (Nat.le_of_ble_eq_true rfl) d_B_sweep_47 (fun H locs hP hD hS => ?_)
      exact (k_B_sweep_50 C hrec28) _ _ _ _ _ _ _ _ _ _ _ _ h _ _ _ hP hD hS (lv_sub hl [0, 1, 2, 3, 4] rfl)
    · have h := ite_T c_2 h
      refine lv_iload_n hx hb d_B_sweep_42 rfl (lv_at hl 1 rfl) ?_
      refine lv_goto (tgt := 50) hx hb d_B_sweep_43 (by decide) ?_
      exact (k_B_sweep_50 C hrec28) _ _ _ _ _ _ _ _ _ _ _ _ h _ _ _ hP hD hS (lv_sub hl [0, 1, 2, 3, 4] rfl)
theorem k_B_sweep_28_L {p : Program} {l : Launch} {e : Env} {s : State} {m : MethodId} {args : Array Value} {below : List Frame} {meth : Method} {c : Code} {D : va_G} {A : Nat → Prop} {a : Nat → Nat} {k : Nat → ClassId} {sg : Nat → Int32} {ci : Int32} {ta : Nat → Int32} {oe : Nat → Int32} {fp : Nat → Int32} {ro : Nat → Int64} {sp : Nat → Int64} {qr : Nat} {qs : Nat} (C : cx D [(k 1, .int), (k 2, .int), (k 3, .int), (k 4, .int), (k 5, .boolean), (k 6, .int), (k 8, .int), (k 9, .int), (k 11, .long)] R_B b_B_sweep 6 (some .int) A p s m args meth c) : ∀ n : Nat, H_B_sweep_28 p l e s m args below meth c D A a k sg ci ta oe fp ro sp qr qs (L_B_sweep_28 n)
  | 0 => fun _ _ _ _ _ _ _ _ _ _ _ h => nomatch h
  | n + 1 => k_B_sweep_28 C (k_B_sweep_28_L C n)
set_option maxHeartbeats 4000000 in
set_option maxRecDepth 100000 in
theorem k_B_sweep_0 {p : Program} {l : Launch} {e : Env} {s : State} {m : MethodId} {args : Array Value} {below : List Frame} {meth : Method} {c : Code} {D : va_G} {A : Nat → Prop} {a : Nat → Nat} {k : Nat → ClassId} {sg : Nat → Int32} {ci : Int32} {ta : Nat → Int32} {oe : Nat → Int32} {fp : Nat → Int32} {ro : Nat → Int64} {sp : Nat → Int64} {qr : Nat} {qs : Nat} (C : cx D [(k 1, .int), (k 2, .int), (k 3, .int), (k 4, .int), (k 5, .boolean), (k 6, .int), (k 8, .int), (k 9, .int), (k 11, .long)] R_B b_B_sweep 6 (some .int) A p s m args meth c) : H_B_sweep_0 p l e s m args below meth c D A a k sg ci ta oe fp ro sp qr qs (J_B_sweep_0) := by
  obtain ⟨hx, hb, hr, hml, hown, ht, hlk, hA, hK⟩ := id C
  intro x1 lab cc od sd go we r h H locs ls hP hD hS hl
  unfold J_B_sweep_0 at h
  refine lv_aload_n hx hb d_B_sweep_0 rfl (lv_at hl 0 rfl) ?_
  refine lv_iload_n hx hb d_B_sweep_1 rfl (lv_at hl 1 rfl) ?_
  obtain ⟨v_1, e_1, h⟩ := bd_some h
  refine go_Vi (r := v_1) (As := [.int x1]) (rest := []) (wc := (wB a k lab sg cc ci od sd go ta we oe fp ro sp qr qs)) (wr := []) (w1 := (wB a k lab sg cc ci od sd go ta we oe fp ro sp qr qs)) (w2 := (wB a k lab sg cc ci od sd go ta we oe fp ro sp qr qs)) (tc := [(k 1, .int), (k 2, .int), (k 3, .int), (k 4, .int), (k 5, .boolean), (k 6, .int), (k 8, .int), (k 9, .int), (k 11, .long)]) hx hb hml hown ht (c_B_isCrossing l D a k H.size x1 lab sg cc ci od sd go ta we oe fp ro sp qr qs v_1 e_1) g_B_64 ⟨rfl, rfl⟩ (n := 1) (by decide +kernel) ⟨(Nat.le_of_ble_eq_true rfl), (Nat.le_of_ble_eq_true rfl)⟩ hP hD hK hS hA ⟨Nat.zero_le _, Nat.zero_le _⟩ [0, 1, 2, 3, 4, 5, 6, 7, 8, 9, 10, 11, 12] [] [0, 1, 2, 3, 4, 5, 6, 7, 8] [0, 1, 2, 3, 4, 5, 6, 7, 8, 9, 10, 11, 12] rfl rfl rfl rfl (by decide) (by decide) (by decide) rfl (by decide) 0 rfl rfl rfl rfl rfl hl.1 (Nat.le_of_ble_eq_true rfl) d_B_sweep_2 (fun H locs hP hD hS => ?_)
  refine lv_if_eq (tgt := 15) hx hb d_B_sweep_5 (by decide) (fun c_2 => ?_) (fun c_2 => ?_)
  · have h := ite_T c_2 h
    refine lv_iconst (v := (-1)) hx hb d_B_sweep_15 (by decide) ?_
    cases h
    exact W.iret hx hb hr (fun t ht hW => ⟨⟨_, (), rfl, rfl, by rw [ht]; exact hP, va_K.moved hW.alike hK, hD⟩, hS.F ht⟩) hS.2.2 d_B_sweep_16 hlk
  · have h := ite_F c_2 h
    refine lv_aload_n hx hb d_B_sweep_8 rfl (lv_at hl 0 rfl) ?_
    obtain ⟨v_3, e_3, h⟩ := bd_some h
    refine go_Vi (r := v_3.1) (As := []) (rest := []) (wc := (wB a k lab sg cc ci od sd go ta we oe fp ro sp qr qs)) (wr := []) (w1 := (wB a k lab sg cc ci od v_3.2 go ta we oe fp ro sp qr qs)) (w2 := (wB a k lab sg cc ci od v_3.2 go ta we oe fp ro sp qr qs)) (tc := [(k 1, .int), (k 2, .int), (k 3, .int), (k 4, .int), (k 5, .boolean), (k 6, .int), (k 8, .int), (k 9, .int), (k 11, .long)]) hx hb hml hown ht (c_B_isCode l D a k H.size lab sg cc ci od sd go ta we oe fp ro sp qr qs v_3 e_3) g_B_67 ⟨rfl, rfl⟩ (n := 0) (by decide +kernel) ⟨(Nat.le_of_ble_eq_true rfl), (Nat.le_of_ble_eq_true rfl)⟩ hP hD hK hS hA ⟨Nat.zero_le _, Nat.zero_le _⟩ [0, 1, 2, 3, 4, 5, 6, 7, 8, 9, 10, 11, 12] [] [0, 1, 2, 3, 4, 5, 6, 7, 8] [0, 1, 2, 3, 4, 5, 6, 7, 8, 9, 10, 11, 12] rfl rfl rfl rfl (by decide) (by decide) (by decide) rfl (by decide) 0 rfl rfl rfl rfl rfl hl.1 (Nat.le_of_ble_eq_true rfl) d_B_sweep_9 (fun H locs hP hD hS => ?_)
    refine lv_if_ne (tgt := 17) hx hb d_B_sweep_12 (by decide) (fun c_4 => ?_) (fun c_4 => ?_)
    · have h := ite_F c_4 h
      refine lv_aload_n hx hb d_B_sweep_17 rfl (lv_at hl 0 rfl) ?_
      obtain ⟨v_5, e_5, h⟩ := bd_some h
      refine go_Vv (As := []) (rest := []) (wc := (wB a k lab sg cc ci od v_3.2 go ta we oe fp ro sp qr qs)) (wr := []) (w1 := (wB a k lab sg cc ci od v_5.1 v_5.2 ta we oe fp ro sp qr qs)) (w2 := (wB a k lab sg cc ci od v_5.1 v_5.2 ta we oe fp ro sp qr qs)) (tc := [(k 1, .int), (k 2, .int), (k 3, .int), (k 4, .int), (k 5, .boolean), (k 6, .int), (k 8, .int), (k 9, .int), (k 11, .long)]) hx hb hml hown ht (c_B_goOverNone l D a k H.size lab sg cc ci od v_3.2 go ta we oe fp ro sp qr qs v_5 e_5) g_B_71 ⟨rfl, rfl⟩ (n := 0) (by decide +kernel) ⟨(Nat.le_of_ble_eq_true rfl), (Nat.le_of_ble_eq_true rfl)⟩ hP hD hK hS hA ⟨Nat.zero_le _, Nat.zero_le _⟩ [0, 1, 2, 3, 4, 5, 6, 7, 8, 9, 10, 11, 12] [] [0, 1, 2, 3, 4, 5, 6, 7, 8] [0, 1, 2, 3, 4, 5, 6, 7, 8, 9, 10, 11, 12] rfl rfl rfl rfl (by decide) (by decide) (by decide) rfl (by decide) 0 rfl rfl rfl rfl rfl hl.1 (Nat.le_of_ble_eq_true rfl) d_B_sweep_18 (fun H locs hP hD hS => ?_)
      refine lv_iconst (v := 0) hx hb d_B_sweep_21 (by decide) ?_
      refine lv_istore_n (lv' := [(2, .int (0 : Int32)), (0, .ref (a 0)), (1, .int x1)]) hx hb d_B_sweep_22 rfl hl (by decide) rfl (fun ls hl => ?_)
      refine lv_iconst (v := 0) hx hb d_B_sweep_23 (by decide) ?_
      refine lv_istore_n (lv' := [(3, .int (0 : Int32)), (2, .int (0 : Int32)), (0, .ref (a 0)), (1, .int x1)]) hx hb d_B_sweep_24 rfl hl (by decide) rfl (fun ls hl => ?_)
      refine lv_iconst (v := 0) hx hb d_B_sweep_25 (by decide) ?_
      refine lv_istore (lv' := [(4, .int (0 : Int32)), (3, .int (0 : Int32)), (2, .int (0 : Int32)), (0, .ref (a 0)), (1, .int x1)]) hx hb d_B_sweep_26 hl (by decide) rfl (fun ls hl => ?_)
      exact (k_B_sweep_28_L C fu) _ _ _ _ _ _ _ _ _ _ _ h _ _ _ hP hD hS (lv_sub hl [3, 4, 2, 1, 0] rfl)
    · have h := ite_T c_4 h
      refine lv_iconst (v := (-1)) hx hb d_B_sweep_15 (by decide) ?_
      cases h
      exact W.iret hx hb hr (fun t ht hW => ⟨⟨_, (), rfl, rfl, by rw [ht]; exact hP, va_K.moved hW.alike hK, hD⟩, hS.F ht⟩) hS.2.2 d_B_sweep_16 hlk
set_option maxRecDepth 20000 in
theorem c_B_sweep (l : Launch) (D : va_G) (a : Nat → Nat) (k : Nat → ClassId) (sz : Nat) (x1 : Int32) (lab : Nat → Int32) (sg : Nat → Int32) (cc : Int32) (ci : Int32) (od : Nat → Int32) (sd : Nat → Int32) (go : Nat → Int32) (ta : Nat → Int32) (we : Int32) (oe : Nat → Int32) (fp : Nat → Int32) (ro : Nat → Int64) (sp : Nat → Int64) (qr : Nat) (qs : Nat) (r : Int32 × (Nat → Int32) × (Nat → Int32) × (Nat → Int32) × Int32) (h : F_B_sweep x1 lab cc od sd go we = some r) : Met l y_B_sweep (Cond.code y_B_sweep b_B_sweep 6 (some .int) :: lw_g) (rm_B_sweep) (va_Pc [.ref (a 0), .int x1] (pcW D [(k 1, .int), (k 2, .int), (k 3, .int), (k 4, .int), (k 5, .boolean), (k 6, .int), (k 8, .int), (k 9, .int), (k 11, .long)] (wB a k lab sg cc ci od sd go ta we oe fp ro sp qr qs) sz)) (qc_B_sweep D (va_A (wB a k lab sg cc ci od sd go ta we oe fp ro sp qr qs) sz) a k lab sg cc ci ta oe fp ro sp qr qs r) 0 0 (va_A (wB a k lab sg cc ci od sd go ta we oe fp ro sp qr qs) sz) := by
  refine Met.ofW (cc := b_B_sweep) (maxL := 6) (ret := (some .int)) (by decide) rfl ?_
  intro p e s m args below meth c s₁ B hml hv
  obtain ⟨rfl, hsz, hP, hK, hD0⟩ := hv
  have hts := atoms_spec (ws := Cond.code y_B_sweep b_B_sweep 6 (some .int) :: lw_g) B.pre
  subst hsz
  have hD := hD0.self (sz := s.heap.size)
  have hl := lv_entry ([.ref (a 0), .int x1]) (n := 6) (Nat.le_of_ble_eq_true rfl)
  rw [lg_entry_eq]
  generalize (lg_sl ([.ref (a 0), .int x1]) ++ List.replicate (6 - (lg_sl ([.ref (a 0), .int x1])).length) Slot.unset).toArray = ls at hl ⊢
  exact k_B_sweep_0 ⟨B.exec, B.bytes, B.returns, hml, findClass_of_methodNamed B.named, fun w hw => hts w (List.mem_cons_of_mem _ hw), B.notSynchronized, fun q h => Or.inr h, hK⟩ _ _ _ _ _ _ _ _ h _ _ _ hP hD va_S.rf hl
end
section
def rm_B_bracket : Room := { frames := 17, cells := 0, slots := 0, locals := 426 }
def qc_B_bracket (D : va_G) (A : Nat → Prop) (a : Nat → Nat) (k : Nat → ClassId) (lab : Nat → Int32) (sg : Nat → Int32) (cc : Int32) (ci : Int32) (od : Nat → Int32) (go : Nat → Int32) (r : Int64 × (Nat → Int32) × (Nat → Int32) × Int32 × (Nat → Int32) × (Nat → Int32) × (Nat → Int64) × (Nat → Int64) × Nat × Nat) : Array Value → State → Outcome → State → Prop := va_Ql (fun (r1 : Int64) (_ : Unit) => r1 = r.1) (poW D [(k 1, .int), (k 2, .int), (k 3, .int), (k 4, .int), (k 5, .boolean), (k 6, .int), (k 8, .int), (k 9, .int), (k 11, .long)] (wB a k lab sg cc ci od r.2.1 go r.2.2.1 r.2.2.2.1 r.2.2.2.2.1 r.2.2.2.2.2.1 r.2.2.2.2.2.2.1 r.2.2.2.2.2.2.2.1 r.2.2.2.2.2.2.2.2.1 r.2.2.2.2.2.2.2.2.2) A) A
def J_B_bracket_0 (x1 : Int32) (lab : Nat → Int32) (cc : Int32) (ci : Int32) (od : Nat → Int32) (sd : Nat → Int32) (ta : Nat → Int32) (we : Int32) (oe : Nat → Int32) (fp : Nat → Int32) (ro : Nat → Int64) (sp : Nat → Int64) (qr : Nat) (qs : Nat) : Option (Int64 × (Nat → Int32) × (Nat → Int32) × Int32 × (Nat → Int32) × (Nat → Int32) × (Nat → Int64) × (Nat → Int64) × Nat × Nat) :=
  (Option.bind (F_B_workOut lab cc ci od sd ta we oe fp ro sp qr qs) (fun v_1 => (Option.bind (F_P_at ((x1).toInt64) v_1.2.2.2.2.2.1) (fun v_2 => some (v_2, v_1.1, v_1.2.1, v_1.2.2.1, v_1.2.2.2.1, v_1.2.2.2.2.1, v_1.2.2.2.2.2.1, v_1.2.2.2.2.2.2.1, v_1.2.2.2.2.2.2.2.1, v_1.2.2.2.2.2.2.2.2)))))
def F_B_bracket (x1 : Int32) (lab : Nat → Int32) (cc : Int32) (ci : Int32) (od : Nat → Int32) (sd : Nat → Int32) (ta : Nat → Int32) (we : Int32) (oe : Nat → Int32) (fp : Nat → Int32) (ro : Nat → Int64) (sp : Nat → Int64) (qr : Nat) (qs : Nat) : Option (Int64 × (Nat → Int32) × (Nat → Int32) × Int32 × (Nat → Int32) × (Nat → Int32) × (Nat → Int64) × (Nat → Int64) × Nat × Nat) := J_B_bracket_0 x1 lab cc ci od sd ta we oe fp ro sp qr qs
def H_B_bracket_0 (p : Program) (l : Launch) (e : Env) (s : State) (m : MethodId) (args : Array Value) (below : List Frame) (meth : Method) (c : Code) (D : va_G) (A : Nat → Prop) (a : Nat → Nat) (k : Nat → ClassId) (sg : Nat → Int32) (go : Nat → Int32) (f : Int32 → (Nat → Int32) → Int32 → Int32 → (Nat → Int32) → (Nat → Int32) → (Nat → Int32) → Int32 → (Nat → Int32) → (Nat → Int32) → (Nat → Int64) → (Nat → Int64) → Nat → Nat → Option (Int64 × (Nat → Int32) × (Nat → Int32) × Int32 × (Nat → Int32) × (Nat → Int32) × (Nat → Int64) × (Nat → Int64) × Nat × Nat)) : Prop := ∀ (x1 : Int32) (lab : Nat → Int32) (cc : Int32) (ci : Int32) (od : Nat → Int32) (sd : Nat → Int32) (ta : Nat → Int32) (we : Int32) (oe : Nat → Int32) (fp : Nat → Int32) (ro : Nat → Int64) (sp : Nat → Int64) (qr : Nat) (qs : Nat) (r : Int64 × (Nat → Int32) × (Nat → Int32) × Int32 × (Nat → Int32) × (Nat → Int32) × (Nat → Int64) × (Nat → Int64) × Nat × Nat), f x1 lab cc ci od sd ta we oe fp ro sp qr qs = some r → ∀ (H : Heap) (locs : List Loc) (ls : Array Slot), va_P D classes (wB a k lab sg cc ci od sd go ta we oe fp ro sp qr qs) H → va_D A (wB a k lab sg cc ci od sd go ta we oe fp ro sp qr qs) → va_S A s.heap H locs → lv_has ls 2 [(0, .ref (a 0)), (1, .int x1)] → W p l e (rm_B_bracket) s m args below meth c H locs 0 0 (MQ below (qc_B_bracket D A a k lab sg cc ci od go r) args s 0 0 A) (F0 m 0 ls [])
set_option maxHeartbeats 4000000 in
set_option maxRecDepth 100000 in
theorem k_B_bracket_0 {p : Program} {l : Launch} {e : Env} {s : State} {m : MethodId} {args : Array Value} {below : List Frame} {meth : Method} {c : Code} {D : va_G} {A : Nat → Prop} {a : Nat → Nat} {k : Nat → ClassId} {sg : Nat → Int32} {go : Nat → Int32} (C : cx D [(k 1, .int), (k 2, .int), (k 3, .int), (k 4, .int), (k 5, .boolean), (k 6, .int), (k 8, .int), (k 9, .int), (k 11, .long)] R_B b_B_bracket 2 (some .long) A p s m args meth c) : H_B_bracket_0 p l e s m args below meth c D A a k sg go (J_B_bracket_0) := by
  obtain ⟨hx, hb, hr, hml, hown, ht, hlk, hA, hK⟩ := id C
  intro x1 lab cc ci od sd ta we oe fp ro sp qr qs r h H locs ls hP hD hS hl
  unfold J_B_bracket_0 at h
  refine lv_aload_n hx hb d_B_bracket_0 rfl (lv_at hl 0 rfl) ?_
  obtain ⟨v_1, e_1, h⟩ := bd_some h
  refine go_Vv (As := []) (rest := []) (wc := (wB a k lab sg cc ci od sd go ta we oe fp ro sp qr qs)) (wr := []) (w1 := (wB a k lab sg cc ci od v_1.1 go v_1.2.1 v_1.2.2.1 v_1.2.2.2.1 v_1.2.2.2.2.1 v_1.2.2.2.2.2.1 v_1.2.2.2.2.2.2.1 v_1.2.2.2.2.2.2.2.1 v_1.2.2.2.2.2.2.2.2)) (w2 := (wB a k lab sg cc ci od v_1.1 go v_1.2.1 v_1.2.2.1 v_1.2.2.2.1 v_1.2.2.2.2.1 v_1.2.2.2.2.2.1 v_1.2.2.2.2.2.2.1 v_1.2.2.2.2.2.2.2.1 v_1.2.2.2.2.2.2.2.2)) (tc := [(k 1, .int), (k 2, .int), (k 3, .int), (k 4, .int), (k 5, .boolean), (k 6, .int), (k 8, .int), (k 9, .int), (k 11, .long)]) hx hb hml hown ht (c_B_workOut l D a k H.size lab sg cc ci od sd go ta we oe fp ro sp qr qs v_1 e_1) g_B_88 ⟨rfl, rfl⟩ (n := 0) (by decide +kernel) ⟨(Nat.le_of_ble_eq_true rfl), (Nat.le_of_ble_eq_true rfl)⟩ hP hD hK hS hA ⟨Nat.zero_le _, Nat.zero_le _⟩ [0, 1, 2, 3, 4, 5, 6, 7, 8, 9, 10, 11, 12] [] [0, 1, 2, 3, 4, 5, 6, 7, 8] [0, 1, 2, 3, 4, 5, 6, 7, 8, 9, 10, 11, 12] rfl rfl rfl rfl (by decide) (by decide) (by decide) rfl (by decide) 0 rfl rfl rfl rfl rfl hl.1 (Nat.le_of_ble_eq_true rfl) d_B_bracket_1 (fun H locs hP hD hS => ?_)
  refine lv_aload_n hx hb d_B_bracket_4 rfl (lv_at hl 0 rfl) ?_
  refine va_get (D := D) (ci := 0) (v := .ref (a 10)) (C := R_B) (T := F_B) (N := 11) hx hb ht iC_B hown hK hP 0 rfl rfl 9 (by decide) (ht _ ix_88) (fun _ h9 => h9) rfl d_B_bracket_5 ?_
  refine lv_iload_n hx hb d_B_bracket_8 rfl (lv_at hl 1 rfl) ?_
  refine lv_i2l (v := (x1).toInt64) hx hb d_B_bracket_9 rfl ?_
  obtain ⟨v_2, e_2, h⟩ := bd_some h
  refine go_Vl (r := v_2) (As := [.long ((x1).toInt64)]) (rest := []) (wc := (wP a k v_1.2.2.2.2.2.1 v_1.2.2.2.2.2.2.1 v_1.2.2.2.2.2.2.2.1 v_1.2.2.2.2.2.2.2.2)) (wr := [((a 0), .inr (0, [.ref (a 1), .ref (a 2), .int cc, .int ci, .ref (a 3), .ref (a 4), .ref (a 5), .ref (a 6), .ref (a 7), .ref (a 10), .int v_1.2.2.1])), ((a 1), .inl (k 1, 40, .inl lab)), ((a 2), .inl (k 2, 10, .inl sg)), ((a 3), .inl (k 3, 10, .inl od)), ((a 4), .inl (k 4, 100, .inl v_1.1)), ((a 5), .inl (k 5, 10, .inl go)), ((a 6), .inl (k 6, 330, .inl v_1.2.1)), ((a 7), .inr (1, [.ref (a 8), .ref (a 9)])), ((a 8), .inl (k 8, 40, .inl v_1.2.2.2.1)), ((a 9), .inl (k 9, 100, .inl v_1.2.2.2.2.1))]) (w1 := (wP a k v_1.2.2.2.2.2.1 v_1.2.2.2.2.2.2.1 v_1.2.2.2.2.2.2.2.1 v_1.2.2.2.2.2.2.2.2)) (w2 := (wB a k lab sg cc ci od v_1.1 go v_1.2.1 v_1.2.2.1 v_1.2.2.2.1 v_1.2.2.2.2.1 v_1.2.2.2.2.2.1 v_1.2.2.2.2.2.2.1 v_1.2.2.2.2.2.2.2.1 v_1.2.2.2.2.2.2.2.2)) (tc := [(k 11, .long)]) hx hb hml hown ht (c_P_at l D a k H.size ((x1).toInt64) v_1.2.2.2.2.2.1 v_1.2.2.2.2.2.2.1 v_1.2.2.2.2.2.2.2.1 v_1.2.2.2.2.2.2.2.2 v_2 e_2) g_B_91 ⟨rfl, rfl⟩ (n := 1) (by decide +kernel) ⟨(Nat.le_of_ble_eq_true rfl), (Nat.le_of_ble_eq_true rfl)⟩ hP hD hK hS hA ⟨Nat.zero_le _, Nat.zero_le _⟩ [10, 11, 12] [0, 1, 2, 3, 4, 5, 6, 7, 8, 9] [8] [0, 1, 2, 3, 4, 5, 6, 7, 8, 9, 10, 11, 12] rfl rfl rfl rfl (by decide) (by decide) (by decide) rfl (by decide) 0 rfl rfl rfl rfl rfl hl.1 (Nat.le_of_ble_eq_true rfl) d_B_bracket_10 (fun H locs hP hD hS => ?_)
  cases h
  exact W.lret hx hb hr (fun t ht hW => ⟨⟨_, (), rfl, rfl, by rw [ht]; exact hP, va_K.moved hW.alike hK, hD⟩, hS.F ht⟩) hS.2.2 d_B_bracket_13 hlk
set_option maxRecDepth 20000 in
theorem c_B_bracket (l : Launch) (D : va_G) (a : Nat → Nat) (k : Nat → ClassId) (sz : Nat) (x1 : Int32) (lab : Nat → Int32) (sg : Nat → Int32) (cc : Int32) (ci : Int32) (od : Nat → Int32) (sd : Nat → Int32) (go : Nat → Int32) (ta : Nat → Int32) (we : Int32) (oe : Nat → Int32) (fp : Nat → Int32) (ro : Nat → Int64) (sp : Nat → Int64) (qr : Nat) (qs : Nat) (r : Int64 × (Nat → Int32) × (Nat → Int32) × Int32 × (Nat → Int32) × (Nat → Int32) × (Nat → Int64) × (Nat → Int64) × Nat × Nat) (h : F_B_bracket x1 lab cc ci od sd ta we oe fp ro sp qr qs = some r) : Met l y_B_bracket (Cond.code y_B_bracket b_B_bracket 2 (some .long) :: lw_g) (rm_B_bracket) (va_Pc [.ref (a 0), .int x1] (pcW D [(k 1, .int), (k 2, .int), (k 3, .int), (k 4, .int), (k 5, .boolean), (k 6, .int), (k 8, .int), (k 9, .int), (k 11, .long)] (wB a k lab sg cc ci od sd go ta we oe fp ro sp qr qs) sz)) (qc_B_bracket D (va_A (wB a k lab sg cc ci od sd go ta we oe fp ro sp qr qs) sz) a k lab sg cc ci od go r) 0 0 (va_A (wB a k lab sg cc ci od sd go ta we oe fp ro sp qr qs) sz) := by
  refine Met.ofW (cc := b_B_bracket) (maxL := 2) (ret := (some .long)) (by decide) rfl ?_
  intro p e s m args below meth c s₁ B hml hv
  obtain ⟨rfl, hsz, hP, hK, hD0⟩ := hv
  have hts := atoms_spec (ws := Cond.code y_B_bracket b_B_bracket 2 (some .long) :: lw_g) B.pre
  subst hsz
  have hD := hD0.self (sz := s.heap.size)
  have hl := lv_entry ([.ref (a 0), .int x1]) (n := 2) (Nat.le_of_ble_eq_true rfl)
  rw [lg_entry_eq]
  generalize (lg_sl ([.ref (a 0), .int x1]) ++ List.replicate (2 - (lg_sl ([.ref (a 0), .int x1])).length) Slot.unset).toArray = ls at hl ⊢
  exact k_B_bracket_0 ⟨B.exec, B.bytes, B.returns, hml, findClass_of_methodNamed B.named, fun w hw => hts w (List.mem_cons_of_mem _ hw), B.notSynchronized, fun q h => Or.inr h, hK⟩ _ _ _ _ _ _ _ _ _ _ _ _ _ _ _ h _ _ _ hP hD va_S.rf hl

def rm_B_jones : Room := { frames := 17, cells := 0, slots := 0, locals := 426 }
def qc_B_jones (D : va_G) (A : Nat → Prop) (a : Nat → Nat) (k : Nat → ClassId) (lab : Nat → Int32) (sg : Nat → Int32) (cc : Int32) (ci : Int32) (od : Nat → Int32) (go : Nat → Int32) (r : Int64 × (Nat → Int32) × (Nat → Int32) × Int32 × (Nat → Int32) × (Nat → Int32) × (Nat → Int64) × (Nat → Int64) × Nat × Nat) : Array Value → State → Outcome → State → Prop := va_Ql (fun (r1 : Int64) (_ : Unit) => r1 = r.1) (poW D [(k 1, .int), (k 2, .int), (k 3, .int), (k 4, .int), (k 5, .boolean), (k 6, .int), (k 8, .int), (k 9, .int), (k 11, .long)] (wB a k lab sg cc ci od r.2.1 go r.2.2.1 r.2.2.2.1 r.2.2.2.2.1 r.2.2.2.2.2.1 r.2.2.2.2.2.2.1 r.2.2.2.2.2.2.2.1 r.2.2.2.2.2.2.2.2.1 r.2.2.2.2.2.2.2.2.2) A) A
def J_B_jones_0 (x1 : Int32) (lab : Nat → Int32) (sg : Nat → Int32) (cc : Int32) (ci : Int32) (od : Nat → Int32) (sd : Nat → Int32) (ta : Nat → Int32) (we : Int32) (oe : Nat → Int32) (fp : Nat → Int32) (ro : Nat → Int64) (sp : Nat → Int64) (qr : Nat) (qs : Nat) : Option (Int64 × (Nat → Int32) × (Nat → Int32) × Int32 × (Nat → Int32) × (Nat → Int32) × (Nat → Int64) × (Nat → Int64) × Nat × Nat) :=
  (Option.bind (F_B_workOut lab cc ci od sd ta we oe fp ro sp qr qs) (fun v_1 => (Option.bind (F_B_sumOfSigns sg cc) (fun v_2 => (Option.bind (F_P_at (((x1).toInt64) + ((3 : Int64) * ((v_2).toInt64))) v_1.2.2.2.2.2.1) (fun v_3 => (if (v_2 &&& (1 : Int32)) = 0 then some (v_3, v_1.1, v_1.2.1, v_1.2.2.1, v_1.2.2.2.1, v_1.2.2.2.2.1, v_1.2.2.2.2.2.1, v_1.2.2.2.2.2.2.1, v_1.2.2.2.2.2.2.2.1, v_1.2.2.2.2.2.2.2.2) else some ((-v_3), v_1.1, v_1.2.1, v_1.2.2.1, v_1.2.2.2.1, v_1.2.2.2.2.1, v_1.2.2.2.2.2.1, v_1.2.2.2.2.2.2.1, v_1.2.2.2.2.2.2.2.1, v_1.2.2.2.2.2.2.2.2))))))))
def F_B_jones (x1 : Int32) (lab : Nat → Int32) (sg : Nat → Int32) (cc : Int32) (ci : Int32) (od : Nat → Int32) (sd : Nat → Int32) (ta : Nat → Int32) (we : Int32) (oe : Nat → Int32) (fp : Nat → Int32) (ro : Nat → Int64) (sp : Nat → Int64) (qr : Nat) (qs : Nat) : Option (Int64 × (Nat → Int32) × (Nat → Int32) × Int32 × (Nat → Int32) × (Nat → Int32) × (Nat → Int64) × (Nat → Int64) × Nat × Nat) := J_B_jones_0 x1 lab sg cc ci od sd ta we oe fp ro sp qr qs
def H_B_jones_0 (p : Program) (l : Launch) (e : Env) (s : State) (m : MethodId) (args : Array Value) (below : List Frame) (meth : Method) (c : Code) (D : va_G) (A : Nat → Prop) (a : Nat → Nat) (k : Nat → ClassId) (go : Nat → Int32) (f : Int32 → (Nat → Int32) → (Nat → Int32) → Int32 → Int32 → (Nat → Int32) → (Nat → Int32) → (Nat → Int32) → Int32 → (Nat → Int32) → (Nat → Int32) → (Nat → Int64) → (Nat → Int64) → Nat → Nat → Option (Int64 × (Nat → Int32) × (Nat → Int32) × Int32 × (Nat → Int32) × (Nat → Int32) × (Nat → Int64) × (Nat → Int64) × Nat × Nat)) : Prop := ∀ (x1 : Int32) (lab : Nat → Int32) (sg : Nat → Int32) (cc : Int32) (ci : Int32) (od : Nat → Int32) (sd : Nat → Int32) (ta : Nat → Int32) (we : Int32) (oe : Nat → Int32) (fp : Nat → Int32) (ro : Nat → Int64) (sp : Nat → Int64) (qr : Nat) (qs : Nat) (r : Int64 × (Nat → Int32) × (Nat → Int32) × Int32 × (Nat → Int32) × (Nat → Int32) × (Nat → Int64) × (Nat → Int64) × Nat × Nat), f x1 lab sg cc ci od sd ta we oe fp ro sp qr qs = some r → ∀ (H : Heap) (locs : List Loc) (ls : Array Slot), va_P D classes (wB a k lab sg cc ci od sd go ta we oe fp ro sp qr qs) H → va_D A (wB a k lab sg cc ci od sd go ta we oe fp ro sp qr qs) → va_S A s.heap H locs → lv_has ls 5 [(0, .ref (a 0)), (1, .int x1)] → W p l e (rm_B_jones) s m args below meth c H locs 0 0 (MQ below (qc_B_jones D A a k lab sg cc ci od go r) args s 0 0 A) (F0 m 0 ls [])
set_option maxHeartbeats 4000000 in
set_option maxRecDepth 100000 in
theorem k_B_jones_0 {p : Program} {l : Launch} {e : Env} {s : State} {m : MethodId} {args : Array Value} {below : List Frame} {meth : Method} {c : Code} {D : va_G} {A : Nat → Prop} {a : Nat → Nat} {k : Nat → ClassId} {go : Nat → Int32} (C : cx D [(k 1, .int), (k 2, .int), (k 3, .int), (k 4, .int), (k 5, .boolean), (k 6, .int), (k 8, .int), (k 9, .int), (k 11, .long)] R_B b_B_jones 5 (some .long) A p s m args meth c) : H_B_jones_0 p l e s m args below meth c D A a k go (J_B_jones_0) := by
  obtain ⟨hx, hb, hr, hml, hown, ht, hlk, hA, hK⟩ := id C
  intro x1 lab sg cc ci od sd ta we oe fp ro sp qr qs r h H locs ls hP hD hS hl
  unfold J_B_jones_0 at h
  refine lv_aload_n hx hb d_B_jones_0 rfl (lv_at hl 0 rfl) ?_
  obtain ⟨v_1, e_1, h⟩ := bd_some h
  refine go_Vv (As := []) (rest := []) (wc := (wB a k lab sg cc ci od sd go ta we oe fp ro sp qr qs)) (wr := []) (w1 := (wB a k lab sg cc ci od v_1.1 go v_1.2.1 v_1.2.2.1 v_1.2.2.2.1 v_1.2.2.2.2.1 v_1.2.2.2.2.2.1 v_1.2.2.2.2.2.2.1 v_1.2.2.2.2.2.2.2.1 v_1.2.2.2.2.2.2.2.2)) (w2 := (wB a k lab sg cc ci od v_1.1 go v_1.2.1 v_1.2.2.1 v_1.2.2.2.1 v_1.2.2.2.2.1 v_1.2.2.2.2.2.1 v_1.2.2.2.2.2.2.1 v_1.2.2.2.2.2.2.2.1 v_1.2.2.2.2.2.2.2.2)) (tc := [(k 1, .int), (k 2, .int), (k 3, .int), (k 4, .int), (k 5, .boolean), (k 6, .int), (k 8, .int), (k 9, .int), (k 11, .long)]) hx hb hml hown ht (c_B_workOut l D a k H.size lab sg cc ci od sd go ta we oe fp ro sp qr qs v_1 e_1) g_B_88 ⟨rfl, rfl⟩ (n := 0) (by decide +kernel) ⟨(Nat.le_of_ble_eq_true rfl), (Nat.le_of_ble_eq_true rfl)⟩ hP hD hK hS hA ⟨Nat.zero_le _, Nat.zero_le _⟩ [0, 1, 2, 3, 4, 5, 6, 7, 8, 9, 10, 11, 12] [] [0, 1, 2, 3, 4, 5, 6, 7, 8] [0, 1, 2, 3, 4, 5, 6, 7, 8, 9, 10, 11, 12] rfl rfl rfl rfl (by decide) (by decide) (by decide) rfl (by decide) 0 rfl rfl rfl rfl rfl hl.1 (Nat.le_of_ble_eq_true rfl) d_B_jones_1 (fun H locs hP hD hS => ?_)
  refine lv_aload_n hx hb d_B_jones_4 rfl (lv_at hl 0 rfl) ?_
  obtain ⟨v_2, e_2, h⟩ := bd_some h
  refine go_Vi (r := v_2) (As := []) (rest := []) (wc := (wB a k lab sg cc ci od v_1.1 go v_1.2.1 v_1.2.2.1 v_1.2.2.2.1 v_1.2.2.2.2.1 v_1.2.2.2.2.2.1 v_1.2.2.2.2.2.2.1 v_1.2.2.2.2.2.2.2.1 v_1.2.2.2.2.2.2.2.2)) (wr := []) (w1 := (wB a k lab sg cc ci od v_1.1 go v_1.2.1 v_1.2.2.1 v_1.2.2.2.1 v_1.2.2.2.2.1 v_1.2.2.2.2.2.1 v_1.2.2.2.2.2.2.1 v_1.2.2.2.2.2.2.2.1 v_1.2.2.2.2.2.2.2.2)) (w2 := (wB a k lab sg cc ci od v_1.1 go v_1.2.1 v_1.2.2.1 v_1.2.2.2.1 v_1.2.2.2.2.1 v_1.2.2.2.2.2.1 v_1.2.2.2.2.2.2.1 v_1.2.2.2.2.2.2.2.1 v_1.2.2.2.2.2.2.2.2)) (tc := [(k 1, .int), (k 2, .int), (k 3, .int), (k 4, .int), (k 5, .boolean), (k 6, .int), (k 8, .int), (k 9, .int), (k 11, .long)]) hx hb hml hown ht (c_B_sumOfSigns l D a k H.size lab sg cc ci od v_1.1 go v_1.2.1 v_1.2.2.1 v_1.2.2.2.1 v_1.2.2.2.2.1 v_1.2.2.2.2.2.1 v_1.2.2.2.2.2.2.1 v_1.2.2.2.2.2.2.2.1 v_1.2.2.2.2.2.2.2.2 v_2 e_2) g_B_95 ⟨rfl, rfl⟩ (n := 0) (by decide +kernel) ⟨(Nat.le_of_ble_eq_true rfl), (Nat.le_of_ble_eq_true rfl)⟩ hP hD hK hS hA ⟨Nat.zero_le _, Nat.zero_le _⟩ [0, 1, 2, 3, 4, 5, 6, 7, 8, 9, 10, 11, 12] [] [0, 1, 2, 3, 4, 5, 6, 7, 8] [0, 1, 2, 3, 4, 5, 6, 7, 8, 9, 10, 11, 12] rfl rfl rfl rfl (by decide) (by decide) (by decide) rfl (by decide) 0 rfl rfl rfl rfl rfl hl.1 (Nat.le_of_ble_eq_true rfl) d_B_jones_5 (fun H locs hP hD hS => ?_)
  refine lv_istore_n (lv' := [(2, .int v_2), (0, .ref (a 0)), (1, .int x1)]) hx hb d_B_jones_8 rfl hl (by decide) rfl (fun ls hl => ?_)
  refine lv_aload_n hx hb d_B_jones_9 rfl (lv_at hl 1 rfl) ?_
  refine va_get (D := D) (ci := 0) (v := .ref (a 10)) (C := R_B) (T := F_B) (N := 11) hx hb ht iC_B hown hK hP 0 rfl rfl 9 (by decide) (ht _ ix_88) (fun _ h9 => h9) rfl d_B_jones_10 ?_
  refine lv_iload_n hx hb d_B_jones_13 rfl (lv_at hl 2 rfl) ?_
  refine lv_i2l (v := (x1).toInt64) hx hb d_B_jones_14 rfl ?_
  refine lv_ldc2 (v := (3)) hx hb hown (ht _ ix_145) d_B_jones_15 ?_
  refine lv_iload_n hx hb d_B_jones_18 rfl (lv_at hl 0 rfl) ?_
  refine lv_i2l (v := (v_2).toInt64) hx hb d_B_jones_19 rfl ?_
  refine lv_lmul hx hb d_B_jones_20 ?_
  refine lv_ladd hx hb d_B_jones_21 ?_
  obtain ⟨v_3, e_3, h⟩ := bd_some h
  refine go_Vl (r := v_3) (As := [.long (((x1).toInt64) + ((3 : Int64) * ((v_2).toInt64)))]) (rest := []) (wc := (wP a k v_1.2.2.2.2.2.1 v_1.2.2.2.2.2.2.1 v_1.2.2.2.2.2.2.2.1 v_1.2.2.2.2.2.2.2.2)) (wr := [((a 0), .inr (0, [.ref (a 1), .ref (a 2), .int cc, .int ci, .ref (a 3), .ref (a 4), .ref (a 5), .ref (a 6), .ref (a 7), .ref (a 10), .int v_1.2.2.1])), ((a 1), .inl (k 1, 40, .inl lab)), ((a 2), .inl (k 2, 10, .inl sg)), ((a 3), .inl (k 3, 10, .inl od)), ((a 4), .inl (k 4, 100, .inl v_1.1)), ((a 5), .inl (k 5, 10, .inl go)), ((a 6), .inl (k 6, 330, .inl v_1.2.1)), ((a 7), .inr (1, [.ref (a 8), .ref (a 9)])), ((a 8), .inl (k 8, 40, .inl v_1.2.2.2.1)), ((a 9), .inl (k 9, 100, .inl v_1.2.2.2.2.1))]) (w1 := (wP a k v_1.2.2.2.2.2.1 v_1.2.2.2.2.2.2.1 v_1.2.2.2.2.2.2.2.1 v_1.2.2.2.2.2.2.2.2)) (w2 := (wB a k lab sg cc ci od v_1.1 go v_1.2.1 v_1.2.2.1 v_1.2.2.2.1 v_1.2.2.2.2.1 v_1.2.2.2.2.2.1 v_1.2.2.2.2.2.2.1 v_1.2.2.2.2.2.2.2.1 v_1.2.2.2.2.2.2.2.2)) (tc := [(k 11, .long)]) hx hb hml hown ht (c_P_at l D a k H.size (((x1).toInt64) + ((3 : Int64) * ((v_2).toInt64))) v_1.2.2.2.2.2.1 v_1.2.2.2.2.2.2.1 v_1.2.2.2.2.2.2.2.1 v_1.2.2.2.2.2.2.2.2 v_3 e_3) g_B_91 ⟨rfl, rfl⟩ (n := 1) (by decide +kernel) ⟨(Nat.le_of_ble_eq_true rfl), (Nat.le_of_ble_eq_true rfl)⟩ hP hD hK hS hA ⟨Nat.zero_le _, Nat.zero_le _⟩ [10, 11, 12] [0, 1, 2, 3, 4, 5, 6, 7, 8, 9] [8] [0, 1, 2, 3, 4, 5, 6, 7, 8, 9, 10, 11, 12] rfl rfl rfl rfl (by decide) (by decide) (by decide) rfl (by decide) 0 rfl rfl rfl rfl rfl hl.1 (Nat.le_of_ble_eq_true rfl) d_B_jones_22 (fun H locs hP hD hS => ?_)
  refine lv_lstore_n (lv' := [(3, .long v_3), (2, .int v_2), (0, .ref (a 0)), (1, .int x1)]) hx hb d_B_jones_25 rfl hl (by decide) rfl (fun ls hl => ?_)
  refine lv_iload_n hx hb d_B_jones_26 rfl (lv_at hl 1 rfl) ?_
  refine lv_iconst (v := 1) hx hb d_B_jones_27 (by decide) ?_
  refine lv_iand hx hb d_B_jones_28 ?_
  refine lv_if_ne (tgt := 36) hx hb d_B_jones_29 (by decide) (fun c_4 => ?_) (fun c_4 => ?_)
  · have h := ite_F c_4 h
    refine lv_lload_n hx hb d_B_jones_36 rfl (lv_at hl 0 rfl) ?_
    refine lv_lneg hx hb d_B_jones_37 ?_
    cases h
    exact W.lret hx hb hr (fun t ht hW => ⟨⟨_, (), rfl, rfl, by rw [ht]; exact hP, va_K.moved hW.alike hK, hD⟩, hS.F ht⟩) hS.2.2 d_B_jones_38 hlk
  · have h := ite_T c_4 h
    refine lv_lload_n hx hb d_B_jones_32 rfl (lv_at hl 0 rfl) ?_
    refine lv_goto (tgt := 38) hx hb d_B_jones_33 (by decide) ?_
    cases h
    exact W.lret hx hb hr (fun t ht hW => ⟨⟨_, (), rfl, rfl, by rw [ht]; exact hP, va_K.moved hW.alike hK, hD⟩, hS.F ht⟩) hS.2.2 d_B_jones_38 hlk
set_option maxRecDepth 20000 in
theorem c_B_jones (l : Launch) (D : va_G) (a : Nat → Nat) (k : Nat → ClassId) (sz : Nat) (x1 : Int32) (lab : Nat → Int32) (sg : Nat → Int32) (cc : Int32) (ci : Int32) (od : Nat → Int32) (sd : Nat → Int32) (go : Nat → Int32) (ta : Nat → Int32) (we : Int32) (oe : Nat → Int32) (fp : Nat → Int32) (ro : Nat → Int64) (sp : Nat → Int64) (qr : Nat) (qs : Nat) (r : Int64 × (Nat → Int32) × (Nat → Int32) × Int32 × (Nat → Int32) × (Nat → Int32) × (Nat → Int64) × (Nat → Int64) × Nat × Nat) (h : F_B_jones x1 lab sg cc ci od sd ta we oe fp ro sp qr qs = some r) : Met l y_B_jones (Cond.code y_B_jones b_B_jones 5 (some .long) :: lw_g) (rm_B_jones) (va_Pc [.ref (a 0), .int x1] (pcW D [(k 1, .int), (k 2, .int), (k 3, .int), (k 4, .int), (k 5, .boolean), (k 6, .int), (k 8, .int), (k 9, .int), (k 11, .long)] (wB a k lab sg cc ci od sd go ta we oe fp ro sp qr qs) sz)) (qc_B_jones D (va_A (wB a k lab sg cc ci od sd go ta we oe fp ro sp qr qs) sz) a k lab sg cc ci od go r) 0 0 (va_A (wB a k lab sg cc ci od sd go ta we oe fp ro sp qr qs) sz) := by
  refine Met.ofW (cc := b_B_jones) (maxL := 5) (ret := (some .long)) (by decide) rfl ?_
  intro p e s m args below meth c s₁ B hml hv
  obtain ⟨rfl, hsz, hP, hK, hD0⟩ := hv
  have hts := atoms_spec (ws := Cond.code y_B_jones b_B_jones 5 (some .long) :: lw_g) B.pre
  subst hsz
  have hD := hD0.self (sz := s.heap.size)
  have hl := lv_entry ([.ref (a 0), .int x1]) (n := 5) (Nat.le_of_ble_eq_true rfl)
  rw [lg_entry_eq]
  generalize (lg_sl ([.ref (a 0), .int x1]) ++ List.replicate (5 - (lg_sl ([.ref (a 0), .int x1])).length) Slot.unset).toArray = ls at hl ⊢
  exact k_B_jones_0 ⟨B.exec, B.bytes, B.returns, hml, findClass_of_methodNamed B.named, fun w hw => hts w (List.mem_cons_of_mem _ hw), B.notSynchronized, fun q h => Or.inr h, hK⟩ _ _ _ _ _ _ _ _ _ _ _ _ _ _ _ _ h _ _ _ hP hD va_S.rf hl

def rm_B_span : Room := { frames := 17, cells := 0, slots := 0, locals := 426 }
def qc_B_span (D : va_G) (A : Nat → Prop) (a : Nat → Nat) (k : Nat → ClassId) (lab : Nat → Int32) (sg : Nat → Int32) (cc : Int32) (ci : Int32) (od : Nat → Int32) (go : Nat → Int32) (r : Int32 × (Nat → Int32) × (Nat → Int32) × Int32 × (Nat → Int32) × (Nat → Int32) × (Nat → Int64) × (Nat → Int64) × Nat × Nat) : Array Value → State → Outcome → State → Prop := va_Qi (fun (r1 : Int32) (_ : Unit) => r1 = r.1) (poW D [(k 1, .int), (k 2, .int), (k 3, .int), (k 4, .int), (k 5, .boolean), (k 6, .int), (k 8, .int), (k 9, .int), (k 11, .long)] (wB a k lab sg cc ci od r.2.1 go r.2.2.1 r.2.2.2.1 r.2.2.2.2.1 r.2.2.2.2.2.1 r.2.2.2.2.2.2.1 r.2.2.2.2.2.2.2.1 r.2.2.2.2.2.2.2.2.1 r.2.2.2.2.2.2.2.2.2) A) A
def J_B_span_37 (x1 : Int32) (y0 : Int32) (lab : Nat → Int32) (sg : Nat → Int32) (cc : Int32) (ci : Int32) (od : Nat → Int32) (sd : Nat → Int32) (ta : Nat → Int32) (we : Int32) (oe : Nat → Int32) (fp : Nat → Int32) (ro : Nat → Int64) (sp : Nat → Int64) (qr : Nat) (qs : Nat) : Option (Int32 × (Nat → Int32) × (Nat → Int32) × Int32 × (Nat → Int32) × (Nat → Int32) × (Nat → Int64) × (Nat → Int64) × Nat × Nat) :=
  (if x1 = 0 then some (y0, sd, ta, we, oe, fp, ro, sp, qr, qs) else (Option.bind (F_B_sumOfSigns sg cc) (fun v_2 => some ((y0 - ((3 : Int32) * v_2)), sd, ta, we, oe, fp, ro, sp, qr, qs))))
def J_B_span_0 (x1 : Int32) (x2 : Int32) (lab : Nat → Int32) (sg : Nat → Int32) (cc : Int32) (ci : Int32) (od : Nat → Int32) (sd : Nat → Int32) (ta : Nat → Int32) (we : Int32) (oe : Nat → Int32) (fp : Nat → Int32) (ro : Nat → Int64) (sp : Nat → Int64) (qr : Nat) (qs : Nat) : Option (Int32 × (Nat → Int32) × (Nat → Int32) × Int32 × (Nat → Int32) × (Nat → Int32) × (Nat → Int64) × (Nat → Int64) × Nat × Nat) :=
  (Option.bind (F_B_workOut lab cc ci od sd ta we oe fp ro sp qr qs) (fun v_1 => (Option.bind (F_P_isZero v_1.2.2.2.2.2.1) (fun v_2 => (if v_2 = 0 then (if x2 = 0 then (Option.bind (F_P_least v_1.2.2.2.2.2.1) (fun v_5 => J_B_span_37 x1 v_5 lab sg cc ci od v_1.1 v_1.2.1 v_1.2.2.1 v_1.2.2.2.1 v_1.2.2.2.2.1 v_1.2.2.2.2.2.1 v_1.2.2.2.2.2.2.1 v_1.2.2.2.2.2.2.2.1 v_1.2.2.2.2.2.2.2.2)) else (Option.bind (F_P_greatest v_1.2.2.2.2.2.1) (fun v_6 => J_B_span_37 x1 v_6 lab sg cc ci od v_1.1 v_1.2.1 v_1.2.2.1 v_1.2.2.2.1 v_1.2.2.2.2.1 v_1.2.2.2.2.2.1 v_1.2.2.2.2.2.2.1 v_1.2.2.2.2.2.2.2.1 v_1.2.2.2.2.2.2.2.2))) else some ((0 : Int32), v_1.1, v_1.2.1, v_1.2.2.1, v_1.2.2.2.1, v_1.2.2.2.2.1, v_1.2.2.2.2.2.1, v_1.2.2.2.2.2.2.1, v_1.2.2.2.2.2.2.2.1, v_1.2.2.2.2.2.2.2.2))))))
def F_B_span (x1 : Int32) (x2 : Int32) (lab : Nat → Int32) (sg : Nat → Int32) (cc : Int32) (ci : Int32) (od : Nat → Int32) (sd : Nat → Int32) (ta : Nat → Int32) (we : Int32) (oe : Nat → Int32) (fp : Nat → Int32) (ro : Nat → Int64) (sp : Nat → Int64) (qr : Nat) (qs : Nat) : Option (Int32 × (Nat → Int32) × (Nat → Int32) × Int32 × (Nat → Int32) × (Nat → Int32) × (Nat → Int64) × (Nat → Int64) × Nat × Nat) := J_B_span_0 x1 x2 lab sg cc ci od sd ta we oe fp ro sp qr qs
def H_B_span_37 (p : Program) (l : Launch) (e : Env) (s : State) (m : MethodId) (args : Array Value) (below : List Frame) (meth : Method) (c : Code) (D : va_G) (A : Nat → Prop) (a : Nat → Nat) (k : Nat → ClassId) (go : Nat → Int32) (f : Int32 → Int32 → (Nat → Int32) → (Nat → Int32) → Int32 → Int32 → (Nat → Int32) → (Nat → Int32) → (Nat → Int32) → Int32 → (Nat → Int32) → (Nat → Int32) → (Nat → Int64) → (Nat → Int64) → Nat → Nat → Option (Int32 × (Nat → Int32) × (Nat → Int32) × Int32 × (Nat → Int32) × (Nat → Int32) × (Nat → Int64) × (Nat → Int64) × Nat × Nat)) : Prop := ∀ (x1 : Int32) (y0 : Int32) (lab : Nat → Int32) (sg : Nat → Int32) (cc : Int32) (ci : Int32) (od : Nat → Int32) (sd : Nat → Int32) (ta : Nat → Int32) (we : Int32) (oe : Nat → Int32) (fp : Nat → Int32) (ro : Nat → Int64) (sp : Nat → Int64) (qr : Nat) (qs : Nat) (r : Int32 × (Nat → Int32) × (Nat → Int32) × Int32 × (Nat → Int32) × (Nat → Int32) × (Nat → Int64) × (Nat → Int64) × Nat × Nat), f x1 y0 lab sg cc ci od sd ta we oe fp ro sp qr qs = some r → ∀ (H : Heap) (locs : List Loc) (ls : Array Slot), va_P D classes (wB a k lab sg cc ci od sd go ta we oe fp ro sp qr qs) H → va_D A (wB a k lab sg cc ci od sd go ta we oe fp ro sp qr qs) → va_S A s.heap H locs → lv_has ls 4 [(0, .ref (a 0)), (1, .int x1)] → W p l e (rm_B_span) s m args below meth c H locs 0 0 (MQ below (qc_B_span D A a k lab sg cc ci od go r) args s 0 0 A) (F0 m 37 ls [.int y0])
def H_B_span_0 (p : Program) (l : Launch) (e : Env) (s : State) (m : MethodId) (args : Array Value) (below : List Frame) (meth : Method) (c : Code) (D : va_G) (A : Nat → Prop) (a : Nat → Nat) (k : Nat → ClassId) (go : Nat → Int32) (f : Int32 → Int32 → (Nat → Int32) → (Nat → Int32) → Int32 → Int32 → (Nat → Int32) → (Nat → Int32) → (Nat → Int32) → Int32 → (Nat → Int32) → (Nat → Int32) → (Nat → Int64) → (Nat → Int64) → Nat → Nat → Option (Int32 × (Nat → Int32) × (Nat → Int32) × Int32 × (Nat → Int32) × (Nat → Int32) × (Nat → Int64) × (Nat → Int64) × Nat × Nat)) : Prop := ∀ (x1 : Int32) (x2 : Int32) (lab : Nat → Int32) (sg : Nat → Int32) (cc : Int32) (ci : Int32) (od : Nat → Int32) (sd : Nat → Int32) (ta : Nat → Int32) (we : Int32) (oe : Nat → Int32) (fp : Nat → Int32) (ro : Nat → Int64) (sp : Nat → Int64) (qr : Nat) (qs : Nat) (r : Int32 × (Nat → Int32) × (Nat → Int32) × Int32 × (Nat → Int32) × (Nat → Int32) × (Nat → Int64) × (Nat → Int64) × Nat × Nat), f x1 x2 lab sg cc ci od sd ta we oe fp ro sp qr qs = some r → ∀ (H : Heap) (locs : List Loc) (ls : Array Slot), va_P D classes (wB a k lab sg cc ci od sd go ta we oe fp ro sp qr qs) H → va_D A (wB a k lab sg cc ci od sd go ta we oe fp ro sp qr qs) → va_S A s.heap H locs → lv_has ls 4 [(0, .ref (a 0)), (1, .int x1), (2, .int x2)] → W p l e (rm_B_span) s m args below meth c H locs 0 0 (MQ below (qc_B_span D A a k lab sg cc ci od go r) args s 0 0 A) (F0 m 0 ls [])
set_option maxHeartbeats 4000000 in
set_option maxRecDepth 100000 in
theorem k_B_span_37 {p : Program} {l : Launch} {e : Env} {s : State} {m : MethodId} {args : Array Value} {below : List Frame} {meth : Method} {c : Code} {D : va_G} {A : Nat → Prop} {a : Nat → Nat} {k : Nat → ClassId} {go : Nat → Int32} (C : cx D [(k 1, .int), (k 2, .int), (k 3, .int), (k 4, .int), (k 5, .boolean), (k 6, .int), (k 8, .int), (k 9, .int), (k 11, .long)] R_B b_B_span 4 (some .int) A p s m args meth c) : H_B_span_37 p l e s m args below meth c D A a k go (J_B_span_37) := by
  obtain ⟨hx, hb, hr, hml, hown, ht, hlk, hA, hK⟩ := id C
  intro x1 y0 lab sg cc ci od sd ta we oe fp ro sp qr qs r h H locs ls hP hD hS hl
  unfold J_B_span_37 at h
  refine lv_istore_n (lv' := [(3, .int y0), (0, .ref (a 0)), (1, .int x1)]) hx hb d_B_span_37 rfl hl (by decide) rfl (fun ls hl => ?_)
  refine lv_iload_n hx hb d_B_span_38 rfl (lv_at hl 2 rfl) ?_
  refine lv_if_eq (tgt := 53) hx hb d_B_span_39 (by decide) (fun c_1 => ?_) (fun c_1 => ?_)
  · have h := ite_T c_1 h
    refine lv_iload_n hx hb d_B_span_53 rfl (lv_at hl 0 rfl) ?_
    cases h
    exact W.iret hx hb hr (fun t ht hW => ⟨⟨_, (), rfl, rfl, by rw [ht]; exact hP, va_K.moved hW.alike hK, hD⟩, hS.F ht⟩) hS.2.2 d_B_span_54 hlk
  · have h := ite_F c_1 h
    refine lv_iload_n hx hb d_B_span_42 rfl (lv_at hl 0 rfl) ?_
    refine lv_iconst (v := 3) hx hb d_B_span_43 (by decide) ?_
    refine lv_aload_n hx hb d_B_span_44 rfl (lv_at hl 1 rfl) ?_
    obtain ⟨v_2, e_2, h⟩ := bd_some h
    refine go_Vi (r := v_2) (As := []) (rest := [.int (3 : Int32), .int y0]) (wc := (wB a k lab sg cc ci od sd go ta we oe fp ro sp qr qs)) (wr := []) (w1 := (wB a k lab sg cc ci od sd go ta we oe fp ro sp qr qs)) (w2 := (wB a k lab sg cc ci od sd go ta we oe fp ro sp qr qs)) (tc := [(k 1, .int), (k 2, .int), (k 3, .int), (k 4, .int), (k 5, .boolean), (k 6, .int), (k 8, .int), (k 9, .int), (k 11, .long)]) hx hb hml hown ht (c_B_sumOfSigns l D a k H.size lab sg cc ci od sd go ta we oe fp ro sp qr qs v_2 e_2) g_B_95 ⟨rfl, rfl⟩ (n := 0) (by decide +kernel) ⟨(Nat.le_of_ble_eq_true rfl), (Nat.le_of_ble_eq_true rfl)⟩ hP hD hK hS hA ⟨Nat.zero_le _, Nat.zero_le _⟩ [0, 1, 2, 3, 4, 5, 6, 7, 8, 9, 10, 11, 12] [] [0, 1, 2, 3, 4, 5, 6, 7, 8] [0, 1, 2, 3, 4, 5, 6, 7, 8, 9, 10, 11, 12] rfl rfl rfl rfl (by decide) (by decide) (by decide) rfl (by decide) 0 rfl rfl rfl rfl rfl hl.1 (Nat.le_of_ble_eq_true rfl) d_B_span_45 (fun H locs hP hD hS => ?_)
    refine lv_imul hx hb d_B_span_48 ?_
    refine lv_isub hx hb d_B_span_49 ?_
    refine lv_goto (tgt := 54) hx hb d_B_span_50 (by decide) ?_
    cases h
    exact W.iret hx hb hr (fun t ht hW => ⟨⟨_, (), rfl, rfl, by rw [ht]; exact hP, va_K.moved hW.alike hK, hD⟩, hS.F ht⟩) hS.2.2 d_B_span_54 hlk
set_option maxHeartbeats 4000000 in
set_option maxRecDepth 100000 in
theorem k_B_span_0 {p : Program} {l : Launch} {e : Env} {s : State} {m : MethodId} {args : Array Value} {below : List Frame} {meth : Method} {c : Code} {D : va_G} {A : Nat → Prop} {a : Nat → Nat} {k : Nat → ClassId} {go : Nat → Int32} (C : cx D [(k 1, .int), (k 2, .int), (k 3, .int), (k 4, .int), (k 5, .boolean), (k 6, .int), (k 8, .int), (k 9, .int), (k 11, .long)] R_B b_B_span 4 (some .int) A p s m args meth c) : H_B_span_0 p l e s m args below meth c D A a k go (J_B_span_0) := by
  obtain ⟨hx, hb, hr, hml, hown, ht, hlk, hA, hK⟩ := id C
  intro x1 x2 lab sg cc ci od sd ta we oe fp ro sp qr qs r h H locs ls hP hD hS hl
  unfold J_B_span_0 at h
  refine lv_aload_n hx hb d_B_span_0 rfl (lv_at hl 0 rfl) ?_
  obtain ⟨v_1, e_1, h⟩ := bd_some h
  refine go_Vv (As := []) (rest := []) (wc := (wB a k lab sg cc ci od sd go ta we oe fp ro sp qr qs)) (wr := []) (w1 := (wB a k lab sg cc ci od v_1.1 go v_1.2.1 v_1.2.2.1 v_1.2.2.2.1 v_1.2.2.2.2.1 v_1.2.2.2.2.2.1 v_1.2.2.2.2.2.2.1 v_1.2.2.2.2.2.2.2.1 v_1.2.2.2.2.2.2.2.2)) (w2 := (wB a k lab sg cc ci od v_1.1 go v_1.2.1 v_1.2.2.1 v_1.2.2.2.1 v_1.2.2.2.2.1 v_1.2.2.2.2.2.1 v_1.2.2.2.2.2.2.1 v_1.2.2.2.2.2.2.2.1 v_1.2.2.2.2.2.2.2.2)) (tc := [(k 1, .int), (k 2, .int), (k 3, .int), (k 4, .int), (k 5, .boolean), (k 6, .int), (k 8, .int), (k 9, .int), (k 11, .long)]) hx hb hml hown ht (c_B_workOut l D a k H.size lab sg cc ci od sd go ta we oe fp ro sp qr qs v_1 e_1) g_B_88 ⟨rfl, rfl⟩ (n := 0) (by decide +kernel) ⟨(Nat.le_of_ble_eq_true rfl), (Nat.le_of_ble_eq_true rfl)⟩ hP hD hK hS hA ⟨Nat.zero_le _, Nat.zero_le _⟩ [0, 1, 2, 3, 4, 5, 6, 7, 8, 9, 10, 11, 12] [] [0, 1, 2, 3, 4, 5, 6, 7, 8] [0, 1, 2, 3, 4, 5, 6, 7, 8, 9, 10, 11, 12] rfl rfl rfl rfl (by decide) (by decide) (by decide) rfl (by decide) 0 rfl rfl rfl rfl rfl hl.1 (Nat.le_of_ble_eq_true rfl) d_B_span_1 (fun H locs hP hD hS => ?_)
  refine lv_aload_n hx hb d_B_span_4 rfl (lv_at hl 0 rfl) ?_
  refine va_get (D := D) (ci := 0) (v := .ref (a 10)) (C := R_B) (T := F_B) (N := 11) hx hb ht iC_B hown hK hP 0 rfl rfl 9 (by decide) (ht _ ix_88) (fun _ h9 => h9) rfl d_B_span_5 ?_
  obtain ⟨v_2, e_2, h⟩ := bd_some h
  refine go_Vi (r := v_2) (As := []) (rest := []) (wc := (wP a k v_1.2.2.2.2.2.1 v_1.2.2.2.2.2.2.1 v_1.2.2.2.2.2.2.2.1 v_1.2.2.2.2.2.2.2.2)) (wr := [((a 0), .inr (0, [.ref (a 1), .ref (a 2), .int cc, .int ci, .ref (a 3), .ref (a 4), .ref (a 5), .ref (a 6), .ref (a 7), .ref (a 10), .int v_1.2.2.1])), ((a 1), .inl (k 1, 40, .inl lab)), ((a 2), .inl (k 2, 10, .inl sg)), ((a 3), .inl (k 3, 10, .inl od)), ((a 4), .inl (k 4, 100, .inl v_1.1)), ((a 5), .inl (k 5, 10, .inl go)), ((a 6), .inl (k 6, 330, .inl v_1.2.1)), ((a 7), .inr (1, [.ref (a 8), .ref (a 9)])), ((a 8), .inl (k 8, 40, .inl v_1.2.2.2.1)), ((a 9), .inl (k 9, 100, .inl v_1.2.2.2.2.1))]) (w1 := (wP a k v_1.2.2.2.2.2.1 v_1.2.2.2.2.2.2.1 v_1.2.2.2.2.2.2.2.1 v_1.2.2.2.2.2.2.2.2)) (w2 := (wB a k lab sg cc ci od v_1.1 go v_1.2.1 v_1.2.2.1 v_1.2.2.2.1 v_1.2.2.2.2.1 v_1.2.2.2.2.2.1 v_1.2.2.2.2.2.2.1 v_1.2.2.2.2.2.2.2.1 v_1.2.2.2.2.2.2.2.2)) (tc := [(k 11, .long)]) hx hb hml hown ht (c_P_isZero l D a k H.size v_1.2.2.2.2.2.1 v_1.2.2.2.2.2.2.1 v_1.2.2.2.2.2.2.2.1 v_1.2.2.2.2.2.2.2.2 v_2 e_2) g_B_100 ⟨rfl, rfl⟩ (n := 0) (by decide +kernel) ⟨(Nat.le_of_ble_eq_true rfl), (Nat.le_of_ble_eq_true rfl)⟩ hP hD hK hS hA ⟨Nat.zero_le _, Nat.zero_le _⟩ [10, 11, 12] [0, 1, 2, 3, 4, 5, 6, 7, 8, 9] [8] [0, 1, 2, 3, 4, 5, 6, 7, 8, 9, 10, 11, 12] rfl rfl rfl rfl (by decide) (by decide) (by decide) rfl (by decide) 0 rfl rfl rfl rfl rfl hl.1 (Nat.le_of_ble_eq_true rfl) d_B_span_8 (fun H locs hP hD hS => ?_)
  refine lv_if_eq (tgt := 16) hx hb d_B_span_11 (by decide) (fun c_3 => ?_) (fun c_3 => ?_)
  · have h := ite_T c_3 h
    refine lv_iload_n hx hb d_B_span_16 rfl (lv_at hl 2 rfl) ?_
    refine lv_if_eq (tgt := 30) hx hb d_B_span_17 (by decide) (fun c_4 => ?_) (fun c_4 => ?_)
    · have h := ite_T c_4 h
      refine lv_aload_n hx hb d_B_span_30 rfl (lv_at hl 0 rfl) ?_
      refine va_get (D := D) (ci := 0) (v := .ref (a 10)) (C := R_B) (T := F_B) (N := 11) hx hb ht iC_B hown hK hP 0 rfl rfl 9 (by decide) (ht _ ix_88) (fun _ h9 => h9) rfl d_B_span_31 ?_
      obtain ⟨v_5, e_5, h⟩ := bd_some h
      refine go_Vi (r := v_5) (As := []) (rest := []) (wc := (wP a k v_1.2.2.2.2.2.1 v_1.2.2.2.2.2.2.1 v_1.2.2.2.2.2.2.2.1 v_1.2.2.2.2.2.2.2.2)) (wr := [((a 0), .inr (0, [.ref (a 1), .ref (a 2), .int cc, .int ci, .ref (a 3), .ref (a 4), .ref (a 5), .ref (a 6), .ref (a 7), .ref (a 10), .int v_1.2.2.1])), ((a 1), .inl (k 1, 40, .inl lab)), ((a 2), .inl (k 2, 10, .inl sg)), ((a 3), .inl (k 3, 10, .inl od)), ((a 4), .inl (k 4, 100, .inl v_1.1)), ((a 5), .inl (k 5, 10, .inl go)), ((a 6), .inl (k 6, 330, .inl v_1.2.1)), ((a 7), .inr (1, [.ref (a 8), .ref (a 9)])), ((a 8), .inl (k 8, 40, .inl v_1.2.2.2.1)), ((a 9), .inl (k 9, 100, .inl v_1.2.2.2.2.1))]) (w1 := (wP a k v_1.2.2.2.2.2.1 v_1.2.2.2.2.2.2.1 v_1.2.2.2.2.2.2.2.1 v_1.2.2.2.2.2.2.2.2)) (w2 := (wB a k lab sg cc ci od v_1.1 go v_1.2.1 v_1.2.2.1 v_1.2.2.2.1 v_1.2.2.2.2.1 v_1.2.2.2.2.2.1 v_1.2.2.2.2.2.2.1 v_1.2.2.2.2.2.2.2.1 v_1.2.2.2.2.2.2.2.2)) (tc := [(k 11, .long)]) hx hb hml hown ht (c_P_least l D a k H.size v_1.2.2.2.2.2.1 v_1.2.2.2.2.2.2.1 v_1.2.2.2.2.2.2.2.1 v_1.2.2.2.2.2.2.2.2 v_5 e_5) g_B_106 ⟨rfl, rfl⟩ (n := 0) (by decide +kernel) ⟨(Nat.le_of_ble_eq_true rfl), (Nat.le_of_ble_eq_true rfl)⟩ hP hD hK hS hA ⟨Nat.zero_le _, Nat.zero_le _⟩ [10, 11, 12] [0, 1, 2, 3, 4, 5, 6, 7, 8, 9] [8] [0, 1, 2, 3, 4, 5, 6, 7, 8, 9, 10, 11, 12] rfl rfl rfl rfl (by decide) (by decide) (by decide) rfl (by decide) 0 rfl rfl rfl rfl rfl hl.1 (Nat.le_of_ble_eq_true rfl) d_B_span_34 (fun H locs hP hD hS => ?_)
      exact (k_B_span_37 C) _ _ _ _ _ _ _ _ _ _ _ _ _ _ _ _ _ h _ _ _ hP hD hS (lv_sub hl [0, 1] rfl)
    · have h := ite_F c_4 h
      refine lv_aload_n hx hb d_B_span_20 rfl (lv_at hl 0 rfl) ?_
      refine va_get (D := D) (ci := 0) (v := .ref (a 10)) (C := R_B) (T := F_B) (N := 11) hx hb ht iC_B hown hK hP 0 rfl rfl 9 (by decide) (ht _ ix_88) (fun _ h9 => h9) rfl d_B_span_21 ?_
      obtain ⟨v_6, e_6, h⟩ := bd_some h
      refine go_Vi (r := v_6) (As := []) (rest := []) (wc := (wP a k v_1.2.2.2.2.2.1 v_1.2.2.2.2.2.2.1 v_1.2.2.2.2.2.2.2.1 v_1.2.2.2.2.2.2.2.2)) (wr := [((a 0), .inr (0, [.ref (a 1), .ref (a 2), .int cc, .int ci, .ref (a 3), .ref (a 4), .ref (a 5), .ref (a 6), .ref (a 7), .ref (a 10), .int v_1.2.2.1])), ((a 1), .inl (k 1, 40, .inl lab)), ((a 2), .inl (k 2, 10, .inl sg)), ((a 3), .inl (k 3, 10, .inl od)), ((a 4), .inl (k 4, 100, .inl v_1.1)), ((a 5), .inl (k 5, 10, .inl go)), ((a 6), .inl (k 6, 330, .inl v_1.2.1)), ((a 7), .inr (1, [.ref (a 8), .ref (a 9)])), ((a 8), .inl (k 8, 40, .inl v_1.2.2.2.1)), ((a 9), .inl (k 9, 100, .inl v_1.2.2.2.2.1))]) (w1 := (wP a k v_1.2.2.2.2.2.1 v_1.2.2.2.2.2.2.1 v_1.2.2.2.2.2.2.2.1 v_1.2.2.2.2.2.2.2.2)) (w2 := (wB a k lab sg cc ci od v_1.1 go v_1.2.1 v_1.2.2.1 v_1.2.2.2.1 v_1.2.2.2.2.1 v_1.2.2.2.2.2.1 v_1.2.2.2.2.2.2.1 v_1.2.2.2.2.2.2.2.1 v_1.2.2.2.2.2.2.2.2)) (tc := [(k 11, .long)]) hx hb hml hown ht (c_P_greatest l D a k H.size v_1.2.2.2.2.2.1 v_1.2.2.2.2.2.2.1 v_1.2.2.2.2.2.2.2.1 v_1.2.2.2.2.2.2.2.2 v_6 e_6) g_B_103 ⟨rfl, rfl⟩ (n := 0) (by decide +kernel) ⟨(Nat.le_of_ble_eq_true rfl), (Nat.le_of_ble_eq_true rfl)⟩ hP hD hK hS hA ⟨Nat.zero_le _, Nat.zero_le _⟩ [10, 11, 12] [0, 1, 2, 3, 4, 5, 6, 7, 8, 9] [8] [0, 1, 2, 3, 4, 5, 6, 7, 8, 9, 10, 11, 12] rfl rfl rfl rfl (by decide) (by decide) (by decide) rfl (by decide) 0 rfl rfl rfl rfl rfl hl.1 (Nat.le_of_ble_eq_true rfl) d_B_span_24 (fun H locs hP hD hS => ?_)
      refine lv_goto (tgt := 37) hx hb d_B_span_27 (by decide) ?_
      exact (k_B_span_37 C) _ _ _ _ _ _ _ _ _ _ _ _ _ _ _ _ _ h _ _ _ hP hD hS (lv_sub hl [0, 1] rfl)
  · have h := ite_F c_3 h
    refine lv_iconst (v := 0) hx hb d_B_span_14 (by decide) ?_
    cases h
    exact W.iret hx hb hr (fun t ht hW => ⟨⟨_, (), rfl, rfl, by rw [ht]; exact hP, va_K.moved hW.alike hK, hD⟩, hS.F ht⟩) hS.2.2 d_B_span_15 hlk
set_option maxRecDepth 20000 in
theorem c_B_span (l : Launch) (D : va_G) (a : Nat → Nat) (k : Nat → ClassId) (sz : Nat) (x1 : Int32) (x2 : Int32) (lab : Nat → Int32) (sg : Nat → Int32) (cc : Int32) (ci : Int32) (od : Nat → Int32) (sd : Nat → Int32) (go : Nat → Int32) (ta : Nat → Int32) (we : Int32) (oe : Nat → Int32) (fp : Nat → Int32) (ro : Nat → Int64) (sp : Nat → Int64) (qr : Nat) (qs : Nat) (r : Int32 × (Nat → Int32) × (Nat → Int32) × Int32 × (Nat → Int32) × (Nat → Int32) × (Nat → Int64) × (Nat → Int64) × Nat × Nat) (h : F_B_span x1 x2 lab sg cc ci od sd ta we oe fp ro sp qr qs = some r) : Met l y_B_span (Cond.code y_B_span b_B_span 4 (some .int) :: lw_g) (rm_B_span) (va_Pc [.ref (a 0), .int x1, .int x2] (pcW D [(k 1, .int), (k 2, .int), (k 3, .int), (k 4, .int), (k 5, .boolean), (k 6, .int), (k 8, .int), (k 9, .int), (k 11, .long)] (wB a k lab sg cc ci od sd go ta we oe fp ro sp qr qs) sz)) (qc_B_span D (va_A (wB a k lab sg cc ci od sd go ta we oe fp ro sp qr qs) sz) a k lab sg cc ci od go r) 0 0 (va_A (wB a k lab sg cc ci od sd go ta we oe fp ro sp qr qs) sz) := by
  refine Met.ofW (cc := b_B_span) (maxL := 4) (ret := (some .int)) (by decide) rfl ?_
  intro p e s m args below meth c s₁ B hml hv
  obtain ⟨rfl, hsz, hP, hK, hD0⟩ := hv
  have hts := atoms_spec (ws := Cond.code y_B_span b_B_span 4 (some .int) :: lw_g) B.pre
  subst hsz
  have hD := hD0.self (sz := s.heap.size)
  have hl := lv_entry ([.ref (a 0), .int x1, .int x2]) (n := 4) (Nat.le_of_ble_eq_true rfl)
  rw [lg_entry_eq]
  generalize (lg_sl ([.ref (a 0), .int x1, .int x2]) ++ List.replicate (4 - (lg_sl ([.ref (a 0), .int x1, .int x2])).length) Slot.unset).toArray = ls at hl ⊢
  exact k_B_span_0 ⟨B.exec, B.bytes, B.returns, hml, findClass_of_methodNamed B.named, fun w hw => hts w (List.mem_cons_of_mem _ hw), B.notSynchronized, fun q h => Or.inr h, hK⟩ _ _ _ _ _ _ _ _ _ _ _ _ _ _ _ _ _ h _ _ _ hP hD va_S.rf hl

def rm_B_state : Room := { frames := 4, cells := 0, slots := 0, locals := 85 }
def qc_B_state (D : va_G) (A : Nat → Prop) (a : Nat → Nat) (k : Nat → ClassId) (lab : Nat → Int32) (sg : Nat → Int32) (cc : Int32) (ci : Int32) (od : Nat → Int32) (go : Nat → Int32) (ta : Nat → Int32) (we : Int32) (ro : Nat → Int64) (sp : Nat → Int64) (qr : Nat) (qs : Nat) (r : Int32 × (Nat → Int32) × (Nat → Int32) × (Nat → Int32)) : Array Value → State → Outcome → State → Prop := va_Qi (fun (r1 : Int32) (_ : Unit) => r1 = r.1) (poW D [(k 1, .int), (k 2, .int), (k 3, .int), (k 4, .int), (k 5, .boolean), (k 6, .int), (k 8, .int), (k 9, .int), (k 11, .long)] (wB a k lab sg cc ci od r.2.1 go ta we r.2.2.1 r.2.2.2 ro sp qr qs) A) A
def J_B_state_68 (rec47 : Int32 → Int32 → Int32 → (Nat → Int32) → Int32 → Int32 → (Nat → Int32) → (Nat → Int32) → (Nat → Int32) → Option (Int32 × (Nat → Int32) × (Nat → Int32) × (Nat → Int32))) (x1 : Int32) (x2 : Int32) (x3 : Int32) (y0 : Int32) (lab : Nat → Int32) (cc : Int32) (ci : Int32) (sd : Nat → Int32) (oe : Nat → Int32) (fp : Nat → Int32) : Option (Int32 × (Nat → Int32) × (Nat → Int32) × (Nat → Int32)) :=
  (Option.bind (F_W_smooth x3 y0 oe) (fun v_1 => rec47 x1 (x2 + v_1.1) (x3 + 1) lab cc ci sd v_1.2 fp))
def J_B_state_47 (rec47 : Int32 → Int32 → Int32 → (Nat → Int32) → Int32 → Int32 → (Nat → Int32) → (Nat → Int32) → (Nat → Int32) → Option (Int32 × (Nat → Int32) × (Nat → Int32) × (Nat → Int32))) (x1 : Int32) (x2 : Int32) (x3 : Int32) (lab : Nat → Int32) (cc : Int32) (ci : Int32) (sd : Nat → Int32) (oe : Nat → Int32) (fp : Nat → Int32) : Option (Int32 × (Nat → Int32) × (Nat → Int32) × (Nat → Int32)) :=
  (if cc ≤ x3 then some (x2, sd, oe, fp) else (if ((x1 >>> (x3 &&& 31)) &&& (1 : Int32)) = 0 then J_B_state_68 rec47 x1 x2 x3 (1 : Int32) lab cc ci sd oe fp else J_B_state_68 rec47 x1 x2 x3 (0 : Int32) lab cc ci sd oe fp))
def L_B_state_47 : Nat → Int32 → Int32 → Int32 → (Nat → Int32) → Int32 → Int32 → (Nat → Int32) → (Nat → Int32) → (Nat → Int32) → Option (Int32 × (Nat → Int32) × (Nat → Int32) × (Nat → Int32))
  | 0 => fun _ _ _ _ _ _ _ _ _ => none
  | n + 1 => J_B_state_47 (L_B_state_47 n)
def J_B_state_0 (x1 : Int32) (lab : Nat → Int32) (cc : Int32) (ci : Int32) (sd : Nat → Int32) (oe : Nat → Int32) (fp : Nat → Int32) : Option (Int32 × (Nat → Int32) × (Nat → Int32) × (Nat → Int32)) :=
  (if x1 < 0 then some ((-1 : Int32), sd, oe, fp) else (if ((1 : Int32) <<< (cc &&& 31)) ≤ x1 then some ((-1 : Int32), sd, oe, fp) else (Option.bind (F_B_isCode lab cc sd) (fun v_3 => (if v_3.1 = 0 then some ((-1 : Int32), v_3.2, oe, fp) else (Option.bind (F_W_followLabels ((4 : Int32) * cc) oe fp lab) (fun v_5 => L_B_state_47 fu x1 ci (0 : Int32) lab cc ci v_3.2 v_5.1 v_5.2)))))))
def F_B_state (x1 : Int32) (lab : Nat → Int32) (cc : Int32) (ci : Int32) (sd : Nat → Int32) (oe : Nat → Int32) (fp : Nat → Int32) : Option (Int32 × (Nat → Int32) × (Nat → Int32) × (Nat → Int32)) := J_B_state_0 x1 lab cc ci sd oe fp
def H_B_state_68 (p : Program) (l : Launch) (e : Env) (s : State) (m : MethodId) (args : Array Value) (below : List Frame) (meth : Method) (c : Code) (D : va_G) (A : Nat → Prop) (a : Nat → Nat) (k : Nat → ClassId) (sg : Nat → Int32) (od : Nat → Int32) (go : Nat → Int32) (ta : Nat → Int32) (we : Int32) (ro : Nat → Int64) (sp : Nat → Int64) (qr : Nat) (qs : Nat) (f : Int32 → Int32 → Int32 → Int32 → (Nat → Int32) → Int32 → Int32 → (Nat → Int32) → (Nat → Int32) → (Nat → Int32) → Option (Int32 × (Nat → Int32) × (Nat → Int32) × (Nat → Int32))) : Prop := ∀ (x1 : Int32) (x2 : Int32) (x3 : Int32) (y0 : Int32) (lab : Nat → Int32) (cc : Int32) (ci : Int32) (sd : Nat → Int32) (oe : Nat → Int32) (fp : Nat → Int32) (r : Int32 × (Nat → Int32) × (Nat → Int32) × (Nat → Int32)), f x1 x2 x3 y0 lab cc ci sd oe fp = some r → ∀ (H : Heap) (locs : List Loc) (ls : Array Slot), va_P D classes (wB a k lab sg cc ci od sd go ta we oe fp ro sp qr qs) H → va_D A (wB a k lab sg cc ci od sd go ta we oe fp ro sp qr qs) → va_S A s.heap H locs → lv_has ls 5 [(0, .ref (a 0)), (1, .int x1), (2, .int x2), (3, .int x3)] → W p l e (rm_B_state) s m args below meth c H locs 0 0 (MQ below (qc_B_state D A a k lab sg cc ci od go ta we ro sp qr qs r) args s 0 0 A) (F0 m 68 ls [.int y0])
def H_B_state_47 (p : Program) (l : Launch) (e : Env) (s : State) (m : MethodId) (args : Array Value) (below : List Frame) (meth : Method) (c : Code) (D : va_G) (A : Nat → Prop) (a : Nat → Nat) (k : Nat → ClassId) (sg : Nat → Int32) (od : Nat → Int32) (go : Nat → Int32) (ta : Nat → Int32) (we : Int32) (ro : Nat → Int64) (sp : Nat → Int64) (qr : Nat) (qs : Nat) (f : Int32 → Int32 → Int32 → (Nat → Int32) → Int32 → Int32 → (Nat → Int32) → (Nat → Int32) → (Nat → Int32) → Option (Int32 × (Nat → Int32) × (Nat → Int32) × (Nat → Int32))) : Prop := ∀ (x1 : Int32) (x2 : Int32) (x3 : Int32) (lab : Nat → Int32) (cc : Int32) (ci : Int32) (sd : Nat → Int32) (oe : Nat → Int32) (fp : Nat → Int32) (r : Int32 × (Nat → Int32) × (Nat → Int32) × (Nat → Int32)), f x1 x2 x3 lab cc ci sd oe fp = some r → ∀ (H : Heap) (locs : List Loc) (ls : Array Slot), va_P D classes (wB a k lab sg cc ci od sd go ta we oe fp ro sp qr qs) H → va_D A (wB a k lab sg cc ci od sd go ta we oe fp ro sp qr qs) → va_S A s.heap H locs → lv_has ls 5 [(0, .ref (a 0)), (1, .int x1), (2, .int x2), (3, .int x3)] → W p l e (rm_B_state) s m args below meth c H locs 0 0 (MQ below (qc_B_state D A a k lab sg cc ci od go ta we ro sp qr qs r) args s 0 0 A) (F0 m 47 ls [])
def H_B_state_0 (p : Program) (l : Launch) (e : Env) (s : State) (m : MethodId) (args : Array Value) (below : List Frame) (meth : Method) (c : Code) (D : va_G) (A : Nat → Prop) (a : Nat → Nat) (k : Nat → ClassId) (sg : Nat → Int32) (od : Nat → Int32) (go : Nat → Int32) (ta : Nat → Int32) (we : Int32) (ro : Nat → Int64) (sp : Nat → Int64) (qr : Nat) (qs : Nat) (f : Int32 → (Nat → Int32) → Int32 → Int32 → (Nat → Int32) → (Nat → Int32) → (Nat → Int32) → Option (Int32 × (Nat → Int32) × (Nat → Int32) × (Nat → Int32))) : Prop := ∀ (x1 : Int32) (lab : Nat → Int32) (cc : Int32) (ci : Int32) (sd : Nat → Int32) (oe : Nat → Int32) (fp : Nat → Int32) (r : Int32 × (Nat → Int32) × (Nat → Int32) × (Nat → Int32)), f x1 lab cc ci sd oe fp = some r → ∀ (H : Heap) (locs : List Loc) (ls : Array Slot), va_P D classes (wB a k lab sg cc ci od sd go ta we oe fp ro sp qr qs) H → va_D A (wB a k lab sg cc ci od sd go ta we oe fp ro sp qr qs) → va_S A s.heap H locs → lv_has ls 5 [(0, .ref (a 0)), (1, .int x1)] → W p l e (rm_B_state) s m args below meth c H locs 0 0 (MQ below (qc_B_state D A a k lab sg cc ci od go ta we ro sp qr qs r) args s 0 0 A) (F0 m 0 ls [])
set_option maxHeartbeats 4000000 in
set_option maxRecDepth 100000 in
theorem k_B_state_68 {p : Program} {l : Launch} {e : Env} {s : State} {m : MethodId} {args : Array Value} {below : List Frame} {meth : Method} {c : Code} {D : va_G} {A : Nat → Prop} {a : Nat → Nat} {k : Nat → ClassId} {sg : Nat → Int32} {od : Nat → Int32} {go : Nat → Int32} {ta : Nat → Int32} {we : Int32} {ro : Nat → Int64} {sp : Nat → Int64} {qr : Nat} {qs : Nat} {rec47 : Int32 → Int32 → Int32 → (Nat → Int32) → Int32 → Int32 → (Nat → Int32) → (Nat → Int32) → (Nat → Int32) → Option (Int32 × (Nat → Int32) × (Nat → Int32) × (Nat → Int32))} (C : cx D [(k 1, .int), (k 2, .int), (k 3, .int), (k 4, .int), (k 5, .boolean), (k 6, .int), (k 8, .int), (k 9, .int), (k 11, .long)] R_B b_B_state 5 (some .int) A p s m args meth c) (hrec47 : H_B_state_47 p l e s m args below meth c D A a k sg od go ta we ro sp qr qs rec47) : H_B_state_68 p l e s m args below meth c D A a k sg od go ta we ro sp qr qs (J_B_state_68 rec47) := by
  obtain ⟨hx, hb, hr, hml, hown, ht, hlk, hA, hK⟩ := id C
  intro x1 x2 x3 y0 lab cc ci sd oe fp r h H locs ls hP hD hS hl
  unfold J_B_state_68 at h
  refine lv_istore (lv' := [(4, .int y0), (0, .ref (a 0)), (1, .int x1), (2, .int x2), (3, .int x3)]) hx hb d_B_state_68 hl (by decide) rfl (fun ls hl => ?_)
  refine lv_iload_n hx hb d_B_state_70 rfl (lv_at hl 3 rfl) ?_
  refine lv_aload_n hx hb d_B_state_71 rfl (lv_at hl 1 rfl) ?_
  refine va_get (D := D) (ci := 0) (v := .ref (a 7)) (C := R_B) (T := F_B) (N := 11) hx hb ht iC_B hown hK hP 0 rfl rfl 8 (by decide) (ht _ ix_71) (fun _ h9 => h9) rfl d_B_state_72 ?_
  refine lv_iload_n hx hb d_B_state_75 rfl (lv_at hl 4 rfl) ?_
  refine lv_iload hx hb d_B_state_76 (lv_at hl 0 rfl) ?_
  obtain ⟨v_1, e_1, h⟩ := bd_some h
  refine go_Vi (r := v_1.1) (As := [.int x3, .int y0]) (rest := [.int x2]) (wc := (wW a k oe fp)) (wr := [((a 0), .inr (0, [.ref (a 1), .ref (a 2), .int cc, .int ci, .ref (a 3), .ref (a 4), .ref (a 5), .ref (a 6), .ref (a 7), .ref (a 10), .int we])), ((a 1), .inl (k 1, 40, .inl lab)), ((a 2), .inl (k 2, 10, .inl sg)), ((a 3), .inl (k 3, 10, .inl od)), ((a 4), .inl (k 4, 100, .inl sd)), ((a 5), .inl (k 5, 10, .inl go)), ((a 6), .inl (k 6, 330, .inl ta)), ((a 10), .inr (2, [.ref qr, .ref qs])), (qr, .inl (k 11, 133, .inr (.inl ro))), (qs, .inl (k 11, 133, .inr (.inl sp)))]) (w1 := (wW a k v_1.2 fp)) (w2 := (wB a k lab sg cc ci od sd go ta we v_1.2 fp ro sp qr qs)) (tc := [(k 8, .int), (k 9, .int)]) hx hb hml hown ht (c_W_smooth l D a k H.size x3 y0 oe fp v_1 e_1) g_B_113 ⟨rfl, rfl⟩ (n := 2) (by decide +kernel) ⟨(Nat.le_of_ble_eq_true rfl), (Nat.le_of_ble_eq_true rfl)⟩ hP hD hK hS hA ⟨Nat.zero_le _, Nat.zero_le _⟩ [7, 8, 9] [0, 1, 2, 3, 4, 5, 6, 10, 11, 12] [6, 7] [0, 1, 2, 3, 4, 5, 6, 10, 11, 12, 7, 8, 9] rfl rfl rfl rfl (by decide) (by decide) (by decide) rfl (by decide) 0 rfl rfl rfl rfl rfl hl.1 (Nat.le_of_ble_eq_true rfl) d_B_state_78 (fun H locs hP hD hS => ?_)
  refine lv_iadd hx hb d_B_state_81 ?_
  refine lv_istore_n (lv' := [(2, .int (x2 + v_1.1)), (4, .int y0), (0, .ref (a 0)), (1, .int x1), (3, .int x3)]) hx hb d_B_state_82 rfl hl (by decide) rfl (fun ls hl => ?_)
  refine lv_iinc (v := x3 + 1) (lv' := [(3, .int (x3 + 1)), (2, .int (x2 + v_1.1)), (4, .int y0), (0, .ref (a 0)), (1, .int x1)]) hx hb d_B_state_83 hl (k := 4) rfl rfl (by decide) rfl (fun ls hl => ?_)
  refine lv_goto (tgt := 47) hx hb d_B_state_86 (by decide) ?_
  exact hrec47 _ _ _ _ _ _ _ _ _ _ h _ _ _ hP hD hS (lv_sub hl [3, 4, 1, 0] rfl)
set_option maxHeartbeats 4000000 in
set_option maxRecDepth 100000 in
theorem k_B_state_47 {p : Program} {l : Launch} {e : Env} {s : State} {m : MethodId} {args : Array Value} {below : List Frame} {meth : Method} {c : Code} {D : va_G} {A : Nat → Prop} {a : Nat → Nat} {k : Nat → ClassId} {sg : Nat → Int32} {od : Nat → Int32} {go : Nat → Int32} {ta : Nat → Int32} {we : Int32} {ro : Nat → Int64} {sp : Nat → Int64} {qr : Nat} {qs : Nat} {rec47 : Int32 → Int32 → Int32 → (Nat → Int32) → Int32 → Int32 → (Nat → Int32) → (Nat → Int32) → (Nat → Int32) → Option (Int32 × (Nat → Int32) × (Nat → Int32) × (Nat → Int32))} (C : cx D [(k 1, .int), (k 2, .int), (k 3, .int), (k 4, .int), (k 5, .boolean), (k 6, .int), (k 8, .int), (k 9, .int), (k 11, .long)] R_B b_B_state 5 (some .int) A p s m args meth c) (hrec47 : H_B_state_47 p l e s m args below meth c D A a k sg od go ta we ro sp qr qs rec47) : H_B_state_47 p l e s m args below meth c D A a k sg od go ta we ro sp qr qs (J_B_state_47 rec47) := by
  obtain ⟨hx, hb, hr, hml, hown, ht, hlk, hA, hK⟩ := id C
  intro x1 x2 x3 lab cc ci sd oe fp r h H locs ls hP hD hS hl
  unfold J_B_state_47 at h
  refine lv_iload_n hx hb d_B_state_47 rfl (lv_at hl 3 rfl) ?_
  refine lv_aload_n hx hb d_B_state_48 rfl (lv_at hl 0 rfl) ?_
  refine va_get (D := D) (ci := 0) (v := .int cc) (C := R_B) (T := F_B) (N := 11) hx hb ht iC_B hown hK hP 0 rfl rfl 2 (by decide) (ht _ ix_38) (fun _ h9 => h9) rfl d_B_state_49 ?_
  refine lv_icmp_ge (tgt := 89) hx hb d_B_state_52 (by decide) (fun c_1 => ?_) (fun c_1 => ?_)
  · have h := ite_T c_1 h
    refine lv_iload_n hx hb d_B_state_89 rfl (lv_at hl 2 rfl) ?_
    cases h
    exact W.iret hx hb hr (fun t ht hW => ⟨⟨_, (), rfl, rfl, by rw [ht]; exact hP, va_K.moved hW.alike hK, hD⟩, hS.F ht⟩) hS.2.2 d_B_state_90 hlk
  · have h := ite_F c_1 h
    refine lv_iload_n hx hb d_B_state_55 rfl (lv_at hl 1 rfl) ?_
    refine lv_iload_n hx hb d_B_state_56 rfl (lv_at hl 3 rfl) ?_
    refine lv_ishr hx hb d_B_state_57 ?_
    refine lv_iconst (v := 1) hx hb d_B_state_58 (by decide) ?_
    refine lv_iand hx hb d_B_state_59 ?_
    refine lv_if_ne (tgt := 67) hx hb d_B_state_60 (by decide) (fun c_2 => ?_) (fun c_2 => ?_)
    · have h := ite_F c_2 h
      refine lv_iconst (v := 0) hx hb d_B_state_67 (by decide) ?_
      exact (k_B_state_68 C hrec47) _ _ _ _ _ _ _ _ _ _ _ h _ _ _ hP hD hS (lv_sub hl [0, 1, 2, 3] rfl)
    · have h := ite_T c_2 h
      refine lv_iconst (v := 1) hx hb d_B_state_63 (by decide) ?_
      refine lv_goto (tgt := 68) hx hb d_B_state_64 (by decide) ?_
      exact (k_B_state_68 C hrec47) _ _ _ _ _ _ _ _ _ _ _ h _ _ _ hP hD hS (lv_sub hl [0, 1, 2, 3] rfl)
theorem k_B_state_47_L {p : Program} {l : Launch} {e : Env} {s : State} {m : MethodId} {args : Array Value} {below : List Frame} {meth : Method} {c : Code} {D : va_G} {A : Nat → Prop} {a : Nat → Nat} {k : Nat → ClassId} {sg : Nat → Int32} {od : Nat → Int32} {go : Nat → Int32} {ta : Nat → Int32} {we : Int32} {ro : Nat → Int64} {sp : Nat → Int64} {qr : Nat} {qs : Nat} (C : cx D [(k 1, .int), (k 2, .int), (k 3, .int), (k 4, .int), (k 5, .boolean), (k 6, .int), (k 8, .int), (k 9, .int), (k 11, .long)] R_B b_B_state 5 (some .int) A p s m args meth c) : ∀ n : Nat, H_B_state_47 p l e s m args below meth c D A a k sg od go ta we ro sp qr qs (L_B_state_47 n)
  | 0 => fun _ _ _ _ _ _ _ _ _ _ h => nomatch h
  | n + 1 => k_B_state_47 C (k_B_state_47_L C n)
set_option maxHeartbeats 4000000 in
set_option maxRecDepth 100000 in
theorem k_B_state_0 {p : Program} {l : Launch} {e : Env} {s : State} {m : MethodId} {args : Array Value} {below : List Frame} {meth : Method} {c : Code} {D : va_G} {A : Nat → Prop} {a : Nat → Nat} {k : Nat → ClassId} {sg : Nat → Int32} {od : Nat → Int32} {go : Nat → Int32} {ta : Nat → Int32} {we : Int32} {ro : Nat → Int64} {sp : Nat → Int64} {qr : Nat} {qs : Nat} (C : cx D [(k 1, .int), (k 2, .int), (k 3, .int), (k 4, .int), (k 5, .boolean), (k 6, .int), (k 8, .int), (k 9, .int), (k 11, .long)] R_B b_B_state 5 (some .int) A p s m args meth c) : H_B_state_0 p l e s m args below meth c D A a k sg od go ta we ro sp qr qs (J_B_state_0) := by
  obtain ⟨hx, hb, hr, hml, hown, ht, hlk, hA, hK⟩ := id C
  intro x1 lab cc ci sd oe fp r h H locs ls hP hD hS hl
  unfold J_B_state_0 at h
  refine lv_iload_n hx hb d_B_state_0 rfl (lv_at hl 1 rfl) ?_
  refine lv_if_lt (tgt := 21) hx hb d_B_state_1 (by decide) (fun c_1 => ?_) (fun c_1 => ?_)
  · have h := ite_T c_1 h
    refine lv_iconst (v := (-1)) hx hb d_B_state_21 (by decide) ?_
    cases h
    exact W.iret hx hb hr (fun t ht hW => ⟨⟨_, (), rfl, rfl, by rw [ht]; exact hP, va_K.moved hW.alike hK, hD⟩, hS.F ht⟩) hS.2.2 d_B_state_22 hlk
  · have h := ite_F c_1 h
    refine lv_iload_n hx hb d_B_state_4 rfl (lv_at hl 1 rfl) ?_
    refine lv_iconst (v := 1) hx hb d_B_state_5 (by decide) ?_
    refine lv_aload_n hx hb d_B_state_6 rfl (lv_at hl 0 rfl) ?_
    refine va_get (D := D) (ci := 0) (v := .int cc) (C := R_B) (T := F_B) (N := 11) hx hb ht iC_B hown hK hP 0 rfl rfl 2 (by decide) (ht _ ix_38) (fun _ h9 => h9) rfl d_B_state_7 ?_
    refine lv_ishl hx hb d_B_state_10 ?_
    refine lv_icmp_ge (tgt := 21) hx hb d_B_state_11 (by decide) (fun c_2 => ?_) (fun c_2 => ?_)
    · have h := ite_T c_2 h
      refine lv_iconst (v := (-1)) hx hb d_B_state_21 (by decide) ?_
      cases h
      exact W.iret hx hb hr (fun t ht hW => ⟨⟨_, (), rfl, rfl, by rw [ht]; exact hP, va_K.moved hW.alike hK, hD⟩, hS.F ht⟩) hS.2.2 d_B_state_22 hlk
    · have h := ite_F c_2 h
      refine lv_aload_n hx hb d_B_state_14 rfl (lv_at hl 0 rfl) ?_
      obtain ⟨v_3, e_3, h⟩ := bd_some h
      refine go_Vi (r := v_3.1) (As := []) (rest := []) (wc := (wB a k lab sg cc ci od sd go ta we oe fp ro sp qr qs)) (wr := []) (w1 := (wB a k lab sg cc ci od v_3.2 go ta we oe fp ro sp qr qs)) (w2 := (wB a k lab sg cc ci od v_3.2 go ta we oe fp ro sp qr qs)) (tc := [(k 1, .int), (k 2, .int), (k 3, .int), (k 4, .int), (k 5, .boolean), (k 6, .int), (k 8, .int), (k 9, .int), (k 11, .long)]) hx hb hml hown ht (c_B_isCode l D a k H.size lab sg cc ci od sd go ta we oe fp ro sp qr qs v_3 e_3) g_B_67 ⟨rfl, rfl⟩ (n := 0) (by decide +kernel) ⟨(Nat.le_of_ble_eq_true rfl), (Nat.le_of_ble_eq_true rfl)⟩ hP hD hK hS hA ⟨Nat.zero_le _, Nat.zero_le _⟩ [0, 1, 2, 3, 4, 5, 6, 7, 8, 9, 10, 11, 12] [] [0, 1, 2, 3, 4, 5, 6, 7, 8] [0, 1, 2, 3, 4, 5, 6, 7, 8, 9, 10, 11, 12] rfl rfl rfl rfl (by decide) (by decide) (by decide) rfl (by decide) 0 rfl rfl rfl rfl rfl hl.1 (Nat.le_of_ble_eq_true rfl) d_B_state_15 (fun H locs hP hD hS => ?_)
      refine lv_if_ne (tgt := 23) hx hb d_B_state_18 (by decide) (fun c_4 => ?_) (fun c_4 => ?_)
      · have h := ite_F c_4 h
        refine lv_aload_n hx hb d_B_state_23 rfl (lv_at hl 0 rfl) ?_
        refine va_get (D := D) (ci := 0) (v := .ref (a 7)) (C := R_B) (T := F_B) (N := 11) hx hb ht iC_B hown hK hP 0 rfl rfl 8 (by decide) (ht _ ix_71) (fun _ h9 => h9) rfl d_B_state_24 ?_
        refine lv_aload_n hx hb d_B_state_27 rfl (lv_at hl 0 rfl) ?_
        refine va_get (D := D) (ci := 0) (v := .ref (a 1)) (C := R_B) (T := F_B) (N := 11) hx hb ht iC_B hown hK hP 0 rfl rfl 0 (by decide) (ht _ ix_43) (fun _ h9 => h9) rfl d_B_state_28 ?_
        refine lv_iconst (v := 4) hx hb d_B_state_31 (by decide) ?_
        refine lv_aload_n hx hb d_B_state_32 rfl (lv_at hl 0 rfl) ?_
        refine va_get (D := D) (ci := 0) (v := .int cc) (C := R_B) (T := F_B) (N := 11) hx hb ht iC_B hown hK hP 0 rfl rfl 2 (by decide) (ht _ ix_38) (fun _ h9 => h9) rfl d_B_state_33 ?_
        refine lv_imul hx hb d_B_state_36 ?_
        obtain ⟨v_5, e_5, h⟩ := bd_some h
        refine go_Vv (As := [.ref (a 1), .int ((4 : Int32) * cc)]) (rest := []) (wc := (wL a k oe fp lab)) (wr := [((a 0), .inr (0, [.ref (a 1), .ref (a 2), .int cc, .int ci, .ref (a 3), .ref (a 4), .ref (a 5), .ref (a 6), .ref (a 7), .ref (a 10), .int we])), ((a 2), .inl (k 2, 10, .inl sg)), ((a 3), .inl (k 3, 10, .inl od)), ((a 4), .inl (k 4, 100, .inl v_3.2)), ((a 5), .inl (k 5, 10, .inl go)), ((a 6), .inl (k 6, 330, .inl ta)), ((a 10), .inr (2, [.ref qr, .ref qs])), (qr, .inl (k 11, 133, .inr (.inl ro))), (qs, .inl (k 11, 133, .inr (.inl sp)))]) (w1 := (wL a k v_5.1 v_5.2 lab)) (w2 := (wB a k lab sg cc ci od v_3.2 go ta we v_5.1 v_5.2 ro sp qr qs)) (tc := [(k 8, .int), (k 9, .int), (k 1, .int)]) hx hb hml hown ht (c_W_followLabels l D a k H.size ((4 : Int32) * cc) oe fp lab v_5 e_5) g_B_109 ⟨rfl, rfl⟩ (n := 2) (by decide +kernel) ⟨(Nat.le_of_ble_eq_true rfl), (Nat.le_of_ble_eq_true rfl)⟩ hP hD hK hS hA ⟨Nat.zero_le _, Nat.zero_le _⟩ [7, 8, 9, 1] [0, 2, 3, 4, 5, 6, 10, 11, 12] [6, 7, 0] [0, 12, 1, 2, 3, 4, 5, 9, 10, 11, 6, 7, 8] rfl rfl rfl rfl (by decide) (by decide) (by decide) rfl (by decide) 0 rfl rfl rfl rfl rfl hl.1 (Nat.le_of_ble_eq_true rfl) d_B_state_37 (fun H locs hP hD hS => ?_)
        refine lv_aload_n hx hb d_B_state_40 rfl (lv_at hl 0 rfl) ?_
        refine va_get (D := D) (ci := 0) (v := .int ci) (C := R_B) (T := F_B) (N := 11) hx hb ht iC_B hown hK hP 0 rfl rfl 3 (by decide) (ht _ ix_54) (fun _ h9 => h9) rfl d_B_state_41 ?_
        refine lv_istore_n (lv' := [(2, .int ci), (0, .ref (a 0)), (1, .int x1)]) hx hb d_B_state_44 rfl hl (by decide) rfl (fun ls hl => ?_)
        refine lv_iconst (v := 0) hx hb d_B_state_45 (by decide) ?_
        refine lv_istore_n (lv' := [(3, .int (0 : Int32)), (2, .int ci), (0, .ref (a 0)), (1, .int x1)]) hx hb d_B_state_46 rfl hl (by decide) rfl (fun ls hl => ?_)
        exact (k_B_state_47_L C fu) _ _ _ _ _ _ _ _ _ _ h _ _ _ hP hD hS (lv_sub hl [2, 3, 1, 0] rfl)
      · have h := ite_T c_4 h
        refine lv_iconst (v := (-1)) hx hb d_B_state_21 (by decide) ?_
        cases h
        exact W.iret hx hb hr (fun t ht hW => ⟨⟨_, (), rfl, rfl, by rw [ht]; exact hP, va_K.moved hW.alike hK, hD⟩, hS.F ht⟩) hS.2.2 d_B_state_22 hlk
set_option maxRecDepth 20000 in
theorem c_B_state (l : Launch) (D : va_G) (a : Nat → Nat) (k : Nat → ClassId) (sz : Nat) (x1 : Int32) (lab : Nat → Int32) (sg : Nat → Int32) (cc : Int32) (ci : Int32) (od : Nat → Int32) (sd : Nat → Int32) (go : Nat → Int32) (ta : Nat → Int32) (we : Int32) (oe : Nat → Int32) (fp : Nat → Int32) (ro : Nat → Int64) (sp : Nat → Int64) (qr : Nat) (qs : Nat) (r : Int32 × (Nat → Int32) × (Nat → Int32) × (Nat → Int32)) (h : F_B_state x1 lab cc ci sd oe fp = some r) : Met l y_B_state (Cond.code y_B_state b_B_state 5 (some .int) :: lw_g) (rm_B_state) (va_Pc [.ref (a 0), .int x1] (pcW D [(k 1, .int), (k 2, .int), (k 3, .int), (k 4, .int), (k 5, .boolean), (k 6, .int), (k 8, .int), (k 9, .int), (k 11, .long)] (wB a k lab sg cc ci od sd go ta we oe fp ro sp qr qs) sz)) (qc_B_state D (va_A (wB a k lab sg cc ci od sd go ta we oe fp ro sp qr qs) sz) a k lab sg cc ci od go ta we ro sp qr qs r) 0 0 (va_A (wB a k lab sg cc ci od sd go ta we oe fp ro sp qr qs) sz) := by
  refine Met.ofW (cc := b_B_state) (maxL := 5) (ret := (some .int)) (by decide) rfl ?_
  intro p e s m args below meth c s₁ B hml hv
  obtain ⟨rfl, hsz, hP, hK, hD0⟩ := hv
  have hts := atoms_spec (ws := Cond.code y_B_state b_B_state 5 (some .int) :: lw_g) B.pre
  subst hsz
  have hD := hD0.self (sz := s.heap.size)
  have hl := lv_entry ([.ref (a 0), .int x1]) (n := 5) (Nat.le_of_ble_eq_true rfl)
  rw [lg_entry_eq]
  generalize (lg_sl ([.ref (a 0), .int x1]) ++ List.replicate (5 - (lg_sl ([.ref (a 0), .int x1])).length) Slot.unset).toArray = ls at hl ⊢
  exact k_B_state_0 ⟨B.exec, B.bytes, B.returns, hml, findClass_of_methodNamed B.named, fun w hw => hts w (List.mem_cons_of_mem _ hw), B.notSynchronized, fun q h => Or.inr h, hK⟩ _ _ _ _ _ _ _ _ h _ _ _ hP hD va_S.rf hl

def rm_B_look : Room := { frames := 2, cells := 0, slots := 0, locals := 43 }
def qc_B_look (D : va_G) (A : Nat → Prop) (a : Nat → Nat) (k : Nat → ClassId) (lab : Nat → Int32) (sg : Nat → Int32) (cc : Int32) (ci : Int32) (od : Nat → Int32) (sd : Nat → Int32) (go : Nat → Int32) (ta : Nat → Int32) (we : Int32) (oe : Nat → Int32) (fp : Nat → Int32) (ro : Nat → Int64) (sp : Nat → Int64) (qr : Nat) (qs : Nat) (r : Int32) : Array Value → State → Outcome → State → Prop := va_Qi (fun (r1 : Int32) (_ : Unit) => r1 = r) (poW D [(k 1, .int), (k 2, .int), (k 3, .int), (k 4, .int), (k 5, .boolean), (k 6, .int), (k 8, .int), (k 9, .int), (k 11, .long)] (wB a k lab sg cc ci od sd go ta we oe fp ro sp qr qs) A) A
def J_B_look_43 (x1 : Int32) (x2 : Int32) (lab : Nat → Int32) (sg : Nat → Int32) (cc : Int32) (ci : Int32) : Option (Int32) :=
  (if x2 = (4 : Int32) then (if inb x1 10 then some ((sg x1.toNatClampNeg)) else none) else some ((-1000 : Int32)))
def J_B_look_0 (x1 : Int32) (x2 : Int32) (lab : Nat → Int32) (sg : Nat → Int32) (cc : Int32) (ci : Int32) : Option (Int32) :=
  (if x1 = (-1 : Int32) then (Option.bind (F_B_lookAtAll x2 sg cc ci) (fun v_7 => some (v_7))) else (Option.bind (F_B_isCrossing x1 cc) (fun v_2 => (if v_2 = 0 then some ((-1000 : Int32)) else (if x2 < 0 then J_B_look_43 x1 x2 lab sg cc ci else (if (4 : Int32) ≤ x2 then J_B_look_43 x1 x2 lab sg cc ci else (if inb (((4 : Int32) * x1) + x2) 40 then some ((lab (((4 : Int32) * x1) + x2).toNatClampNeg)) else none)))))))
def F_B_look (x1 : Int32) (x2 : Int32) (lab : Nat → Int32) (sg : Nat → Int32) (cc : Int32) (ci : Int32) : Option (Int32) := J_B_look_0 x1 x2 lab sg cc ci
def H_B_look_43 (p : Program) (l : Launch) (e : Env) (s : State) (m : MethodId) (args : Array Value) (below : List Frame) (meth : Method) (c : Code) (D : va_G) (A : Nat → Prop) (a : Nat → Nat) (k : Nat → ClassId) (od : Nat → Int32) (sd : Nat → Int32) (go : Nat → Int32) (ta : Nat → Int32) (we : Int32) (oe : Nat → Int32) (fp : Nat → Int32) (ro : Nat → Int64) (sp : Nat → Int64) (qr : Nat) (qs : Nat) (f : Int32 → Int32 → (Nat → Int32) → (Nat → Int32) → Int32 → Int32 → Option (Int32)) : Prop := ∀ (x1 : Int32) (x2 : Int32) (lab : Nat → Int32) (sg : Nat → Int32) (cc : Int32) (ci : Int32) (r : Int32), f x1 x2 lab sg cc ci = some r → ∀ (H : Heap) (locs : List Loc) (ls : Array Slot), va_P D classes (wB a k lab sg cc ci od sd go ta we oe fp ro sp qr qs) H → va_D A (wB a k lab sg cc ci od sd go ta we oe fp ro sp qr qs) → va_S A s.heap H locs → lv_has ls 3 [(0, .ref (a 0)), (1, .int x1), (2, .int x2)] → W p l e (rm_B_look) s m args below meth c H locs 0 0 (MQ below (qc_B_look D A a k lab sg cc ci od sd go ta we oe fp ro sp qr qs r) args s 0 0 A) (F0 m 43 ls [])
def H_B_look_0 (p : Program) (l : Launch) (e : Env) (s : State) (m : MethodId) (args : Array Value) (below : List Frame) (meth : Method) (c : Code) (D : va_G) (A : Nat → Prop) (a : Nat → Nat) (k : Nat → ClassId) (od : Nat → Int32) (sd : Nat → Int32) (go : Nat → Int32) (ta : Nat → Int32) (we : Int32) (oe : Nat → Int32) (fp : Nat → Int32) (ro : Nat → Int64) (sp : Nat → Int64) (qr : Nat) (qs : Nat) (f : Int32 → Int32 → (Nat → Int32) → (Nat → Int32) → Int32 → Int32 → Option (Int32)) : Prop := ∀ (x1 : Int32) (x2 : Int32) (lab : Nat → Int32) (sg : Nat → Int32) (cc : Int32) (ci : Int32) (r : Int32), f x1 x2 lab sg cc ci = some r → ∀ (H : Heap) (locs : List Loc) (ls : Array Slot), va_P D classes (wB a k lab sg cc ci od sd go ta we oe fp ro sp qr qs) H → va_D A (wB a k lab sg cc ci od sd go ta we oe fp ro sp qr qs) → va_S A s.heap H locs → lv_has ls 3 [(0, .ref (a 0)), (1, .int x1), (2, .int x2)] → W p l e (rm_B_look) s m args below meth c H locs 0 0 (MQ below (qc_B_look D A a k lab sg cc ci od sd go ta we oe fp ro sp qr qs r) args s 0 0 A) (F0 m 0 ls [])
set_option maxHeartbeats 4000000 in
set_option maxRecDepth 100000 in
theorem k_B_look_43 {p : Program} {l : Launch} {e : Env} {s : State} {m : MethodId} {args : Array Value} {below : List Frame} {meth : Method} {c : Code} {D : va_G} {A : Nat → Prop} {a : Nat → Nat} {k : Nat → ClassId} {od : Nat → Int32} {sd : Nat → Int32} {go : Nat → Int32} {ta : Nat → Int32} {we : Int32} {oe : Nat → Int32} {fp : Nat → Int32} {ro : Nat → Int64} {sp : Nat → Int64} {qr : Nat} {qs : Nat} (C : cx D [(k 1, .int), (k 2, .int), (k 3, .int), (k 4, .int), (k 5, .boolean), (k 6, .int), (k 8, .int), (k 9, .int), (k 11, .long)] R_B b_B_look 3 (some .int) A p s m args meth c) : H_B_look_43 p l e s m args below meth c D A a k od sd go ta we oe fp ro sp qr qs (J_B_look_43) := by
  obtain ⟨hx, hb, hr, hml, hown, ht, hlk, hA, hK⟩ := id C
  intro x1 x2 lab sg cc ci r h H locs ls hP hD hS hl
  unfold J_B_look_43 at h
  refine lv_iload_n hx hb d_B_look_43 rfl (lv_at hl 2 rfl) ?_
  refine lv_iconst (v := 4) hx hb d_B_look_44 (by decide) ?_
  refine lv_icmp_ne (tgt := 57) hx hb d_B_look_45 (by decide) (fun c_1 => ?_) (fun c_1 => ?_)
  · have h := ite_F c_1 h
    refine lv_sipush (v := (-1000)) hx hb d_B_look_57 (by decide) ?_
    cases h
    exact W.iret hx hb hr (fun t ht hW => ⟨⟨_, (), rfl, rfl, by rw [ht]; exact hP, va_K.moved hW.alike hK, hD⟩, hS.F ht⟩) hS.2.2 d_B_look_60 hlk
  · have h := ite_T c_1 h
    refine lv_aload_n hx hb d_B_look_48 rfl (lv_at hl 0 rfl) ?_
    refine va_get (D := D) (ci := 0) (v := .ref (a 2)) (C := R_B) (T := F_B) (N := 11) hx hb ht iC_B hown hK hP 0 rfl rfl 1 (by decide) (ht _ ix_53) (fun _ h9 => h9) rfl d_B_look_49 ?_
    refine lv_iload_n hx hb d_B_look_52 rfl (lv_at hl 1 rfl) ?_
    obtain ⟨g_2, h⟩ := gd_some h
    refine va_iald hx hb hK hP 2 1 rfl rfl (inb_in g_2) d_B_look_53 ?_
    refine lv_goto (tgt := 60) hx hb d_B_look_54 (by decide) ?_
    cases h
    exact W.iret hx hb hr (fun t ht hW => ⟨⟨_, (), rfl, rfl, by rw [ht]; exact hP, va_K.moved hW.alike hK, hD⟩, hS.F ht⟩) hS.2.2 d_B_look_60 hlk
set_option maxHeartbeats 4000000 in
set_option maxRecDepth 100000 in
theorem k_B_look_0 {p : Program} {l : Launch} {e : Env} {s : State} {m : MethodId} {args : Array Value} {below : List Frame} {meth : Method} {c : Code} {D : va_G} {A : Nat → Prop} {a : Nat → Nat} {k : Nat → ClassId} {od : Nat → Int32} {sd : Nat → Int32} {go : Nat → Int32} {ta : Nat → Int32} {we : Int32} {oe : Nat → Int32} {fp : Nat → Int32} {ro : Nat → Int64} {sp : Nat → Int64} {qr : Nat} {qs : Nat} (C : cx D [(k 1, .int), (k 2, .int), (k 3, .int), (k 4, .int), (k 5, .boolean), (k 6, .int), (k 8, .int), (k 9, .int), (k 11, .long)] R_B b_B_look 3 (some .int) A p s m args meth c) : H_B_look_0 p l e s m args below meth c D A a k od sd go ta we oe fp ro sp qr qs (J_B_look_0) := by
  obtain ⟨hx, hb, hr, hml, hown, ht, hlk, hA, hK⟩ := id C
  intro x1 x2 lab sg cc ci r h H locs ls hP hD hS hl
  unfold J_B_look_0 at h
  refine lv_iload_n hx hb d_B_look_0 rfl (lv_at hl 1 rfl) ?_
  refine lv_iconst (v := (-1)) hx hb d_B_look_1 (by decide) ?_
  refine lv_icmp_ne (tgt := 11) hx hb d_B_look_2 (by decide) (fun c_1 => ?_) (fun c_1 => ?_)
  · have h := ite_F c_1 h
    refine lv_aload_n hx hb d_B_look_11 rfl (lv_at hl 0 rfl) ?_
    refine lv_iload_n hx hb d_B_look_12 rfl (lv_at hl 1 rfl) ?_
    obtain ⟨v_2, e_2, h⟩ := bd_some h
    refine go_Vi (r := v_2) (As := [.int x1]) (rest := []) (wc := (wB a k lab sg cc ci od sd go ta we oe fp ro sp qr qs)) (wr := []) (w1 := (wB a k lab sg cc ci od sd go ta we oe fp ro sp qr qs)) (w2 := (wB a k lab sg cc ci od sd go ta we oe fp ro sp qr qs)) (tc := [(k 1, .int), (k 2, .int), (k 3, .int), (k 4, .int), (k 5, .boolean), (k 6, .int), (k 8, .int), (k 9, .int), (k 11, .long)]) hx hb hml hown ht (c_B_isCrossing l D a k H.size x1 lab sg cc ci od sd go ta we oe fp ro sp qr qs v_2 e_2) g_B_64 ⟨rfl, rfl⟩ (n := 1) (by decide +kernel) ⟨(Nat.le_of_ble_eq_true rfl), (Nat.le_of_ble_eq_true rfl)⟩ hP hD hK hS hA ⟨Nat.zero_le _, Nat.zero_le _⟩ [0, 1, 2, 3, 4, 5, 6, 7, 8, 9, 10, 11, 12] [] [0, 1, 2, 3, 4, 5, 6, 7, 8] [0, 1, 2, 3, 4, 5, 6, 7, 8, 9, 10, 11, 12] rfl rfl rfl rfl (by decide) (by decide) (by decide) rfl (by decide) 0 rfl rfl rfl rfl rfl hl.1 (Nat.le_of_ble_eq_true rfl) d_B_look_13 (fun H locs hP hD hS => ?_)
    refine lv_if_ne (tgt := 23) hx hb d_B_look_16 (by decide) (fun c_3 => ?_) (fun c_3 => ?_)
    · have h := ite_F c_3 h
      refine lv_iload_n hx hb d_B_look_23 rfl (lv_at hl 2 rfl) ?_
      refine lv_if_lt (tgt := 43) hx hb d_B_look_24 (by decide) (fun c_4 => ?_) (fun c_4 => ?_)
      · have h := ite_T c_4 h
        exact (k_B_look_43 C) _ _ _ _ _ _ _ h _ _ _ hP hD hS (lv_sub hl [0, 1, 2] rfl)
      · have h := ite_F c_4 h
        refine lv_iload_n hx hb d_B_look_27 rfl (lv_at hl 2 rfl) ?_
        refine lv_iconst (v := 4) hx hb d_B_look_28 (by decide) ?_
        refine lv_icmp_ge (tgt := 43) hx hb d_B_look_29 (by decide) (fun c_5 => ?_) (fun c_5 => ?_)
        · have h := ite_T c_5 h
          exact (k_B_look_43 C) _ _ _ _ _ _ _ h _ _ _ hP hD hS (lv_sub hl [0, 1, 2] rfl)
        · have h := ite_F c_5 h
          refine lv_aload_n hx hb d_B_look_32 rfl (lv_at hl 0 rfl) ?_
          refine va_get (D := D) (ci := 0) (v := .ref (a 1)) (C := R_B) (T := F_B) (N := 11) hx hb ht iC_B hown hK hP 0 rfl rfl 0 (by decide) (ht _ ix_43) (fun _ h9 => h9) rfl d_B_look_33 ?_
          refine lv_iconst (v := 4) hx hb d_B_look_36 (by decide) ?_
          refine lv_iload_n hx hb d_B_look_37 rfl (lv_at hl 1 rfl) ?_
          refine lv_imul hx hb d_B_look_38 ?_
          refine lv_iload_n hx hb d_B_look_39 rfl (lv_at hl 2 rfl) ?_
          refine lv_iadd hx hb d_B_look_40 ?_
          obtain ⟨g_6, h⟩ := gd_some h
          refine va_iald hx hb hK hP 1 0 rfl rfl (inb_in g_6) d_B_look_41 ?_
          cases h
          exact W.iret hx hb hr (fun t ht hW => ⟨⟨_, (), rfl, rfl, by rw [ht]; exact hP, va_K.moved hW.alike hK, hD⟩, hS.F ht⟩) hS.2.2 d_B_look_42 hlk
    · have h := ite_T c_3 h
      refine lv_sipush (v := (-1000)) hx hb d_B_look_19 (by decide) ?_
      cases h
      exact W.iret hx hb hr (fun t ht hW => ⟨⟨_, (), rfl, rfl, by rw [ht]; exact hP, va_K.moved hW.alike hK, hD⟩, hS.F ht⟩) hS.2.2 d_B_look_22 hlk
  · have h := ite_T c_1 h
    refine lv_aload_n hx hb d_B_look_5 rfl (lv_at hl 0 rfl) ?_
    refine lv_iload_n hx hb d_B_look_6 rfl (lv_at hl 2 rfl) ?_
    obtain ⟨v_7, e_7, h⟩ := bd_some h
    refine go_Vi (r := v_7) (As := [.int x2]) (rest := []) (wc := (wB a k lab sg cc ci od sd go ta we oe fp ro sp qr qs)) (wr := []) (w1 := (wB a k lab sg cc ci od sd go ta we oe fp ro sp qr qs)) (w2 := (wB a k lab sg cc ci od sd go ta we oe fp ro sp qr qs)) (tc := [(k 1, .int), (k 2, .int), (k 3, .int), (k 4, .int), (k 5, .boolean), (k 6, .int), (k 8, .int), (k 9, .int), (k 11, .long)]) hx hb hml hown ht (c_B_lookAtAll l D a k H.size x2 lab sg cc ci od sd go ta we oe fp ro sp qr qs v_7 e_7) g_B_117 ⟨rfl, rfl⟩ (n := 1) (by decide +kernel) ⟨(Nat.le_of_ble_eq_true rfl), (Nat.le_of_ble_eq_true rfl)⟩ hP hD hK hS hA ⟨Nat.zero_le _, Nat.zero_le _⟩ [0, 1, 2, 3, 4, 5, 6, 7, 8, 9, 10, 11, 12] [] [0, 1, 2, 3, 4, 5, 6, 7, 8] [0, 1, 2, 3, 4, 5, 6, 7, 8, 9, 10, 11, 12] rfl rfl rfl rfl (by decide) (by decide) (by decide) rfl (by decide) 0 rfl rfl rfl rfl rfl hl.1 (Nat.le_of_ble_eq_true rfl) d_B_look_7 (fun H locs hP hD hS => ?_)
    cases h
    exact W.iret hx hb hr (fun t ht hW => ⟨⟨_, (), rfl, rfl, by rw [ht]; exact hP, va_K.moved hW.alike hK, hD⟩, hS.F ht⟩) hS.2.2 d_B_look_10 hlk
set_option maxRecDepth 20000 in
theorem c_B_look (l : Launch) (D : va_G) (a : Nat → Nat) (k : Nat → ClassId) (sz : Nat) (x1 : Int32) (x2 : Int32) (lab : Nat → Int32) (sg : Nat → Int32) (cc : Int32) (ci : Int32) (od : Nat → Int32) (sd : Nat → Int32) (go : Nat → Int32) (ta : Nat → Int32) (we : Int32) (oe : Nat → Int32) (fp : Nat → Int32) (ro : Nat → Int64) (sp : Nat → Int64) (qr : Nat) (qs : Nat) (r : Int32) (h : F_B_look x1 x2 lab sg cc ci = some r) : Met l y_B_look (Cond.code y_B_look b_B_look 3 (some .int) :: lw_g) (rm_B_look) (va_Pc [.ref (a 0), .int x1, .int x2] (pcW D [(k 1, .int), (k 2, .int), (k 3, .int), (k 4, .int), (k 5, .boolean), (k 6, .int), (k 8, .int), (k 9, .int), (k 11, .long)] (wB a k lab sg cc ci od sd go ta we oe fp ro sp qr qs) sz)) (qc_B_look D (va_A (wB a k lab sg cc ci od sd go ta we oe fp ro sp qr qs) sz) a k lab sg cc ci od sd go ta we oe fp ro sp qr qs r) 0 0 (va_A (wB a k lab sg cc ci od sd go ta we oe fp ro sp qr qs) sz) := by
  refine Met.ofW (cc := b_B_look) (maxL := 3) (ret := (some .int)) (by decide) rfl ?_
  intro p e s m args below meth c s₁ B hml hv
  obtain ⟨rfl, hsz, hP, hK, hD0⟩ := hv
  have hts := atoms_spec (ws := Cond.code y_B_look b_B_look 3 (some .int) :: lw_g) B.pre
  subst hsz
  have hD := hD0.self (sz := s.heap.size)
  have hl := lv_entry ([.ref (a 0), .int x1, .int x2]) (n := 3) (Nat.le_of_ble_eq_true rfl)
  rw [lg_entry_eq]
  generalize (lg_sl ([.ref (a 0), .int x1, .int x2]) ++ List.replicate (3 - (lg_sl ([.ref (a 0), .int x1, .int x2])).length) Slot.unset).toArray = ls at hl ⊢
  exact k_B_look_0 ⟨B.exec, B.bytes, B.returns, hml, findClass_of_methodNamed B.named, fun w hw => hts w (List.mem_cons_of_mem _ hw), B.notSynchronized, fun q h => Or.inr h, hK⟩ _ _ _ _ _ _ _ h _ _ _ hP hD va_S.rf hl

def rm_B_resolve : Room := { frames := 4, cells := 0, slots := 0, locals := 85 }
def qc_B_resolve (D : va_G) (A : Nat → Prop) (a : Nat → Nat) (k : Nat → ClassId) (go : Nat → Int32) (ta : Nat → Int32) (oe : Nat → Int32) (fp : Nat → Int32) (ro : Nat → Int64) (sp : Nat → Int64) (qr : Nat) (qs : Nat) (r : Int32 × (Nat → Int32) × (Nat → Int32) × Int32 × Int32 × (Nat → Int32) × (Nat → Int32) × Int32) : Array Value → State → Outcome → State → Prop := va_Qi (fun (r1 : Int32) (_ : Unit) => r1 = r.1) (poW D [(k 1, .int), (k 2, .int), (k 3, .int), (k 4, .int), (k 5, .boolean), (k 6, .int), (k 8, .int), (k 9, .int), (k 11, .long)] (wB a k r.2.1 r.2.2.1 r.2.2.2.1 r.2.2.2.2.1 r.2.2.2.2.2.1 r.2.2.2.2.2.2.1 go ta r.2.2.2.2.2.2.2 oe fp ro sp qr qs) A) A
def J_B_resolve_122 (x1 : Int32) (x5 : Int32) (x6 : Int32) (x7 : Int32) (x8 : Int32) (y0 : Int32) (y1 : Int32) (lab : Nat → Int32) (sg : Nat → Int32) (cc : Int32) (ci : Int32) (od : Nat → Int32) (sd : Nat → Int32) (we : Int32) : Option (Int32 × (Nat → Int32) × (Nat → Int32) × Int32 × Int32 × (Nat → Int32) × (Nat → Int32) × Int32) :=
  (if (ci + (y1 + y0)) ≤ (9 : Int32) then (Option.bind (F_B_unite x5 x6 lab cc) (fun v_2 => (Option.bind (F_B_unite x7 x8 v_2 cc) (fun v_3 => (Option.bind (F_B_carry x1 (cc - (1 : Int32)) v_3 sg) (fun v_4 => (Option.bind (F_B_orderAsGiven od we) (fun v_5 => some ((1 : Int32), v_4.1, v_4.2, (cc - (1 : Int32)), (ci + (y1 + y0)), v_5.1, sd, v_5.2))))))))) else some ((0 : Int32), lab, sg, cc, ci, od, sd, we))
def J_B_resolve_110 (x1 : Int32) (x5 : Int32) (x6 : Int32) (x7 : Int32) (x8 : Int32) (y0 : Int32) (lab : Nat → Int32) (sg : Nat → Int32) (cc : Int32) (ci : Int32) (od : Nat → Int32) (sd : Nat → Int32) (we : Int32) : Option (Int32 × (Nat → Int32) × (Nat → Int32) × Int32 × Int32 × (Nat → Int32) × (Nat → Int32) × Int32) :=
  (if x7 = x8 then J_B_resolve_122 x1 x5 x6 x7 x8 (1 : Int32) y0 lab sg cc ci od sd we else J_B_resolve_122 x1 x5 x6 x7 x8 (0 : Int32) y0 lab sg cc ci od sd we)
def J_B_resolve_30 (x1 : Int32) (x3 : Int32) (y0 : Int32) (lab : Nat → Int32) (sg : Nat → Int32) (cc : Int32) (ci : Int32) (od : Nat → Int32) (sd : Nat → Int32) (we : Int32) : Option (Int32 × (Nat → Int32) × (Nat → Int32) × Int32 × Int32 × (Nat → Int32) × (Nat → Int32) × Int32) :=
  (if inb (x3 + y0) 40 then (if inb ((x3 + y0) + (1 : Int32)) 40 then (if inb ((x3 + y0) + (2 : Int32)) 40 then (Option.bind (F_B_renamed (lab ((x3 + y0) + (2 : Int32)).toNatClampNeg) (lab (x3 + y0).toNatClampNeg) (lab ((x3 + y0) + (1 : Int32)).toNatClampNeg)) (fun v_4 => (if inb (x3 + ((y0 + (3 : Int32)) - (y0 + (3 : Int32)) / (4 : Int32) * (4 : Int32))) 40 then (Option.bind (F_B_renamed (lab (x3 + ((y0 + (3 : Int32)) - (y0 + (3 : Int32)) / (4 : Int32) * (4 : Int32))).toNatClampNeg) (lab (x3 + y0).toNatClampNeg) (lab ((x3 + y0) + (1 : Int32)).toNatClampNeg)) (fun v_6 => (if (lab (x3 + y0).toNatClampNeg) = (lab ((x3 + y0) + (1 : Int32)).toNatClampNeg) then J_B_resolve_110 x1 (lab (x3 + y0).toNatClampNeg) (lab ((x3 + y0) + (1 : Int32)).toNatClampNeg) v_4 v_6 (1 : Int32) lab sg cc ci od sd we else J_B_resolve_110 x1 (lab (x3 + y0).toNatClampNeg) (lab ((x3 + y0) + (1 : Int32)).toNatClampNeg) v_4 v_6 (0 : Int32) lab sg cc ci od sd we))) else none))) else none) else none) else none)
def J_B_resolve_0 (x1 : Int32) (x2 : Int32) (lab : Nat → Int32) (sg : Nat → Int32) (cc : Int32) (ci : Int32) (od : Nat → Int32) (sd : Nat → Int32) (we : Int32) : Option (Int32 × (Nat → Int32) × (Nat → Int32) × Int32 × Int32 × (Nat → Int32) × (Nat → Int32) × Int32) :=
  (Option.bind (F_B_isCrossing x1 cc) (fun v_1 => (if v_1 = 0 then some ((0 : Int32), lab, sg, cc, ci, od, sd, we) else (Option.bind (F_B_isCode lab cc sd) (fun v_3 => (if v_3.1 = 0 then some ((0 : Int32), lab, sg, cc, ci, od, v_3.2, we) else (if x2 = 0 then J_B_resolve_30 x1 ((4 : Int32) * x1) (1 : Int32) lab sg cc ci od v_3.2 we else J_B_resolve_30 x1 ((4 : Int32) * x1) (0 : Int32) lab sg cc ci od v_3.2 we)))))))
def F_B_resolve (x1 : Int32) (x2 : Int32) (lab : Nat → Int32) (sg : Nat → Int32) (cc : Int32) (ci : Int32) (od : Nat → Int32) (sd : Nat → Int32) (we : Int32) : Option (Int32 × (Nat → Int32) × (Nat → Int32) × Int32 × Int32 × (Nat → Int32) × (Nat → Int32) × Int32) := J_B_resolve_0 x1 x2 lab sg cc ci od sd we
def H_B_resolve_122 (p : Program) (l : Launch) (e : Env) (s : State) (m : MethodId) (args : Array Value) (below : List Frame) (meth : Method) (c : Code) (D : va_G) (A : Nat → Prop) (a : Nat → Nat) (k : Nat → ClassId) (go : Nat → Int32) (ta : Nat → Int32) (oe : Nat → Int32) (fp : Nat → Int32) (ro : Nat → Int64) (sp : Nat → Int64) (qr : Nat) (qs : Nat) (f : Int32 → Int32 → Int32 → Int32 → Int32 → Int32 → Int32 → (Nat → Int32) → (Nat → Int32) → Int32 → Int32 → (Nat → Int32) → (Nat → Int32) → Int32 → Option (Int32 × (Nat → Int32) × (Nat → Int32) × Int32 × Int32 × (Nat → Int32) × (Nat → Int32) × Int32)) : Prop := ∀ (x1 : Int32) (x5 : Int32) (x6 : Int32) (x7 : Int32) (x8 : Int32) (y0 : Int32) (y1 : Int32) (lab : Nat → Int32) (sg : Nat → Int32) (cc : Int32) (ci : Int32) (od : Nat → Int32) (sd : Nat → Int32) (we : Int32) (r : Int32 × (Nat → Int32) × (Nat → Int32) × Int32 × Int32 × (Nat → Int32) × (Nat → Int32) × Int32), f x1 x5 x6 x7 x8 y0 y1 lab sg cc ci od sd we = some r → ∀ (H : Heap) (locs : List Loc) (ls : Array Slot), va_P D classes (wB a k lab sg cc ci od sd go ta we oe fp ro sp qr qs) H → va_D A (wB a k lab sg cc ci od sd go ta we oe fp ro sp qr qs) → va_S A s.heap H locs → lv_has ls 10 [(0, .ref (a 0)), (1, .int x1), (5, .int x5), (6, .int x6), (7, .int x7), (8, .int x8)] → W p l e (rm_B_resolve) s m args below meth c H locs 0 0 (MQ below (qc_B_resolve D A a k go ta oe fp ro sp qr qs r) args s 0 0 A) (F0 m 122 ls [.int y0, .int y1])
def H_B_resolve_110 (p : Program) (l : Launch) (e : Env) (s : State) (m : MethodId) (args : Array Value) (below : List Frame) (meth : Method) (c : Code) (D : va_G) (A : Nat → Prop) (a : Nat → Nat) (k : Nat → ClassId) (go : Nat → Int32) (ta : Nat → Int32) (oe : Nat → Int32) (fp : Nat → Int32) (ro : Nat → Int64) (sp : Nat → Int64) (qr : Nat) (qs : Nat) (f : Int32 → Int32 → Int32 → Int32 → Int32 → Int32 → (Nat → Int32) → (Nat → Int32) → Int32 → Int32 → (Nat → Int32) → (Nat → Int32) → Int32 → Option (Int32 × (Nat → Int32) × (Nat → Int32) × Int32 × Int32 × (Nat → Int32) × (Nat → Int32) × Int32)) : Prop := ∀ (x1 : Int32) (x5 : Int32) (x6 : Int32) (x7 : Int32) (x8 : Int32) (y0 : Int32) (lab : Nat → Int32) (sg : Nat → Int32) (cc : Int32) (ci : Int32) (od : Nat → Int32) (sd : Nat → Int32) (we : Int32) (r : Int32 × (Nat → Int32) × (Nat → Int32) × Int32 × Int32 × (Nat → Int32) × (Nat → Int32) × Int32), f x1 x5 x6 x7 x8 y0 lab sg cc ci od sd we = some r → ∀ (H : Heap) (locs : List Loc) (ls : Array Slot), va_P D classes (wB a k lab sg cc ci od sd go ta we oe fp ro sp qr qs) H → va_D A (wB a k lab sg cc ci od sd go ta we oe fp ro sp qr qs) → va_S A s.heap H locs → lv_has ls 10 [(0, .ref (a 0)), (1, .int x1), (5, .int x5), (6, .int x6), (7, .int x7), (8, .int x8)] → W p l e (rm_B_resolve) s m args below meth c H locs 0 0 (MQ below (qc_B_resolve D A a k go ta oe fp ro sp qr qs r) args s 0 0 A) (F0 m 110 ls [.int y0])
def H_B_resolve_30 (p : Program) (l : Launch) (e : Env) (s : State) (m : MethodId) (args : Array Value) (below : List Frame) (meth : Method) (c : Code) (D : va_G) (A : Nat → Prop) (a : Nat → Nat) (k : Nat → ClassId) (go : Nat → Int32) (ta : Nat → Int32) (oe : Nat → Int32) (fp : Nat → Int32) (ro : Nat → Int64) (sp : Nat → Int64) (qr : Nat) (qs : Nat) (f : Int32 → Int32 → Int32 → (Nat → Int32) → (Nat → Int32) → Int32 → Int32 → (Nat → Int32) → (Nat → Int32) → Int32 → Option (Int32 × (Nat → Int32) × (Nat → Int32) × Int32 × Int32 × (Nat → Int32) × (Nat → Int32) × Int32)) : Prop := ∀ (x1 : Int32) (x3 : Int32) (y0 : Int32) (lab : Nat → Int32) (sg : Nat → Int32) (cc : Int32) (ci : Int32) (od : Nat → Int32) (sd : Nat → Int32) (we : Int32) (r : Int32 × (Nat → Int32) × (Nat → Int32) × Int32 × Int32 × (Nat → Int32) × (Nat → Int32) × Int32), f x1 x3 y0 lab sg cc ci od sd we = some r → ∀ (H : Heap) (locs : List Loc) (ls : Array Slot), va_P D classes (wB a k lab sg cc ci od sd go ta we oe fp ro sp qr qs) H → va_D A (wB a k lab sg cc ci od sd go ta we oe fp ro sp qr qs) → va_S A s.heap H locs → lv_has ls 10 [(0, .ref (a 0)), (1, .int x1), (3, .int x3)] → W p l e (rm_B_resolve) s m args below meth c H locs 0 0 (MQ below (qc_B_resolve D A a k go ta oe fp ro sp qr qs r) args s 0 0 A) (F0 m 30 ls [.int y0])
def H_B_resolve_0 (p : Program) (l : Launch) (e : Env) (s : State) (m : MethodId) (args : Array Value) (below : List Frame) (meth : Method) (c : Code) (D : va_G) (A : Nat → Prop) (a : Nat → Nat) (k : Nat → ClassId) (go : Nat → Int32) (ta : Nat → Int32) (oe : Nat → Int32) (fp : Nat → Int32) (ro : Nat → Int64) (sp : Nat → Int64) (qr : Nat) (qs : Nat) (f : Int32 → Int32 → (Nat → Int32) → (Nat → Int32) → Int32 → Int32 → (Nat → Int32) → (Nat → Int32) → Int32 → Option (Int32 × (Nat → Int32) × (Nat → Int32) × Int32 × Int32 × (Nat → Int32) × (Nat → Int32) × Int32)) : Prop := ∀ (x1 : Int32) (x2 : Int32) (lab : Nat → Int32) (sg : Nat → Int32) (cc : Int32) (ci : Int32) (od : Nat → Int32) (sd : Nat → Int32) (we : Int32) (r : Int32 × (Nat → Int32) × (Nat → Int32) × Int32 × Int32 × (Nat → Int32) × (Nat → Int32) × Int32), f x1 x2 lab sg cc ci od sd we = some r → ∀ (H : Heap) (locs : List Loc) (ls : Array Slot), va_P D classes (wB a k lab sg cc ci od sd go ta we oe fp ro sp qr qs) H → va_D A (wB a k lab sg cc ci od sd go ta we oe fp ro sp qr qs) → va_S A s.heap H locs → lv_has ls 10 [(0, .ref (a 0)), (1, .int x1), (2, .int x2)] → W p l e (rm_B_resolve) s m args below meth c H locs 0 0 (MQ below (qc_B_resolve D A a k go ta oe fp ro sp qr qs r) args s 0 0 A) (F0 m 0 ls [])
set_option maxHeartbeats 4000000 in
set_option maxRecDepth 100000 in
theorem k_B_resolve_122 {p : Program} {l : Launch} {e : Env} {s : State} {m : MethodId} {args : Array Value} {below : List Frame} {meth : Method} {c : Code} {D : va_G} {A : Nat → Prop} {a : Nat → Nat} {k : Nat → ClassId} {go : Nat → Int32} {ta : Nat → Int32} {oe : Nat → Int32} {fp : Nat → Int32} {ro : Nat → Int64} {sp : Nat → Int64} {qr : Nat} {qs : Nat} (C : cx D [(k 1, .int), (k 2, .int), (k 3, .int), (k 4, .int), (k 5, .boolean), (k 6, .int), (k 8, .int), (k 9, .int), (k 11, .long)] R_B b_B_resolve 10 (some .boolean) A p s m args meth c) : H_B_resolve_122 p l e s m args below meth c D A a k go ta oe fp ro sp qr qs (J_B_resolve_122) := by
  obtain ⟨hx, hb, hr, hml, hown, ht, hlk, hA, hK⟩ := id C
  intro x1 x5 x6 x7 x8 y0 y1 lab sg cc ci od sd we r h H locs ls hP hD hS hl
  unfold J_B_resolve_122 at h
  refine lv_iadd hx hb d_B_resolve_122 ?_
  refine lv_istore (lv' := [(9, .int (y1 + y0)), (0, .ref (a 0)), (1, .int x1), (5, .int x5), (6, .int x6), (7, .int x7), (8, .int x8)]) hx hb d_B_resolve_123 hl (by decide) rfl (fun ls hl => ?_)
  refine lv_aload_n hx hb d_B_resolve_125 rfl (lv_at hl 1 rfl) ?_
  refine va_get (D := D) (ci := 0) (v := .int ci) (C := R_B) (T := F_B) (N := 11) hx hb ht iC_B hown hK hP 0 rfl rfl 3 (by decide) (ht _ ix_54) (fun _ h9 => h9) rfl d_B_resolve_126 ?_
  refine lv_iload hx hb d_B_resolve_129 (lv_at hl 0 rfl) ?_
  refine lv_iadd hx hb d_B_resolve_131 ?_
  refine lv_bipush (v := 9) hx hb d_B_resolve_132 (by decide) ?_
  refine lv_icmp_le (tgt := 139) hx hb d_B_resolve_134 (by decide) (fun c_1 => ?_) (fun c_1 => ?_)
  · have h := ite_T c_1 h
    refine lv_aload_n hx hb d_B_resolve_139 rfl (lv_at hl 1 rfl) ?_
    refine lv_iload hx hb d_B_resolve_140 (lv_at hl 3 rfl) ?_
    refine lv_iload hx hb d_B_resolve_142 (lv_at hl 4 rfl) ?_
    obtain ⟨v_2, e_2, h⟩ := bd_some h
    refine go_Vv (As := [.int x5, .int x6]) (rest := []) (wc := (wB a k lab sg cc ci od sd go ta we oe fp ro sp qr qs)) (wr := []) (w1 := (wB a k v_2 sg cc ci od sd go ta we oe fp ro sp qr qs)) (w2 := (wB a k v_2 sg cc ci od sd go ta we oe fp ro sp qr qs)) (tc := [(k 1, .int), (k 2, .int), (k 3, .int), (k 4, .int), (k 5, .boolean), (k 6, .int), (k 8, .int), (k 9, .int), (k 11, .long)]) hx hb hml hown ht (c_B_unite l D a k H.size x5 x6 lab sg cc ci od sd go ta we oe fp ro sp qr qs v_2 e_2) g_B_124 ⟨rfl, rfl⟩ (n := 2) (by decide +kernel) ⟨(Nat.le_of_ble_eq_true rfl), (Nat.le_of_ble_eq_true rfl)⟩ hP hD hK hS hA ⟨Nat.zero_le _, Nat.zero_le _⟩ [0, 1, 2, 3, 4, 5, 6, 7, 8, 9, 10, 11, 12] [] [0, 1, 2, 3, 4, 5, 6, 7, 8] [0, 1, 2, 3, 4, 5, 6, 7, 8, 9, 10, 11, 12] rfl rfl rfl rfl (by decide) (by decide) (by decide) rfl (by decide) 0 rfl rfl rfl rfl rfl hl.1 (Nat.le_of_ble_eq_true rfl) d_B_resolve_144 (fun H locs hP hD hS => ?_)
    refine lv_aload_n hx hb d_B_resolve_147 rfl (lv_at hl 1 rfl) ?_
    refine lv_iload hx hb d_B_resolve_148 (lv_at hl 5 rfl) ?_
    refine lv_iload hx hb d_B_resolve_150 (lv_at hl 6 rfl) ?_
    obtain ⟨v_3, e_3, h⟩ := bd_some h
    refine go_Vv (As := [.int x7, .int x8]) (rest := []) (wc := (wB a k v_2 sg cc ci od sd go ta we oe fp ro sp qr qs)) (wr := []) (w1 := (wB a k v_3 sg cc ci od sd go ta we oe fp ro sp qr qs)) (w2 := (wB a k v_3 sg cc ci od sd go ta we oe fp ro sp qr qs)) (tc := [(k 1, .int), (k 2, .int), (k 3, .int), (k 4, .int), (k 5, .boolean), (k 6, .int), (k 8, .int), (k 9, .int), (k 11, .long)]) hx hb hml hown ht (c_B_unite l D a k H.size x7 x8 v_2 sg cc ci od sd go ta we oe fp ro sp qr qs v_3 e_3) g_B_124 ⟨rfl, rfl⟩ (n := 2) (by decide +kernel) ⟨(Nat.le_of_ble_eq_true rfl), (Nat.le_of_ble_eq_true rfl)⟩ hP hD hK hS hA ⟨Nat.zero_le _, Nat.zero_le _⟩ [0, 1, 2, 3, 4, 5, 6, 7, 8, 9, 10, 11, 12] [] [0, 1, 2, 3, 4, 5, 6, 7, 8] [0, 1, 2, 3, 4, 5, 6, 7, 8, 9, 10, 11, 12] rfl rfl rfl rfl (by decide) (by decide) (by decide) rfl (by decide) 0 rfl rfl rfl rfl rfl hl.1 (Nat.le_of_ble_eq_true rfl) d_B_resolve_152 (fun H locs hP hD hS => ?_)
    refine lv_aload_n hx hb d_B_resolve_155 rfl (lv_at hl 1 rfl) ?_
    refine lv_dup hx hb d_B_resolve_156 rfl ?_
    refine va_get (D := D) (ci := 0) (v := .int ci) (C := R_B) (T := F_B) (N := 11) hx hb ht iC_B hown hK hP 0 rfl rfl 3 (by decide) (ht _ ix_54) (fun _ h9 => h9) rfl d_B_resolve_157 ?_
    refine lv_iload hx hb d_B_resolve_160 (lv_at hl 0 rfl) ?_
    refine lv_iadd hx hb d_B_resolve_162 ?_
    refine va_put (D := D) (ci := 0) (v := .int (ci + (y1 + y0))) (ty := .int) (C := R_B) (T := F_B) (N := 11) hx hb ht iC_B t_B t_B_ok n_B hown hK hP hD hS 0 rfl rfl 3 (by decide) (ht _ ix_54) (fun _ h9 => h9) rfl (by decide +kernel) rfl rfl (Nat.le_of_ble_eq_true rfl) d_B_resolve_163 (fun H locs hP hD hS => ?_)
    have hP : va_P D classes (wB a k v_3 sg cc (ci + (y1 + y0)) od sd go ta we oe fp ro sp qr qs) H := hP
    have hD : va_D A (wB a k v_3 sg cc (ci + (y1 + y0)) od sd go ta we oe fp ro sp qr qs) := hD
    refine lv_aload_n hx hb d_B_resolve_166 rfl (lv_at hl 1 rfl) ?_
    refine lv_iload_n hx hb d_B_resolve_167 rfl (lv_at hl 2 rfl) ?_
    refine lv_aload_n hx hb d_B_resolve_168 rfl (lv_at hl 1 rfl) ?_
    refine va_get (D := D) (ci := 0) (v := .int cc) (C := R_B) (T := F_B) (N := 11) hx hb ht iC_B hown hK hP 0 rfl rfl 2 (by decide) (ht _ ix_38) (fun _ h9 => h9) rfl d_B_resolve_169 ?_
    refine lv_iconst (v := 1) hx hb d_B_resolve_172 (by decide) ?_
    refine lv_isub hx hb d_B_resolve_173 ?_
    obtain ⟨v_4, e_4, h⟩ := bd_some h
    refine go_Vv (As := [.int x1, .int (cc - (1 : Int32))]) (rest := []) (wc := (wB a k v_3 sg cc (ci + (y1 + y0)) od sd go ta we oe fp ro sp qr qs)) (wr := []) (w1 := (wB a k v_4.1 v_4.2 cc (ci + (y1 + y0)) od sd go ta we oe fp ro sp qr qs)) (w2 := (wB a k v_4.1 v_4.2 cc (ci + (y1 + y0)) od sd go ta we oe fp ro sp qr qs)) (tc := [(k 1, .int), (k 2, .int), (k 3, .int), (k 4, .int), (k 5, .boolean), (k 6, .int), (k 8, .int), (k 9, .int), (k 11, .long)]) hx hb hml hown ht (c_B_carry l D a k H.size x1 (cc - (1 : Int32)) v_3 sg cc (ci + (y1 + y0)) od sd go ta we oe fp ro sp qr qs v_4 e_4) g_B_128 ⟨rfl, rfl⟩ (n := 2) (by decide +kernel) ⟨(Nat.le_of_ble_eq_true rfl), (Nat.le_of_ble_eq_true rfl)⟩ hP hD hK hS hA ⟨Nat.zero_le _, Nat.zero_le _⟩ [0, 1, 2, 3, 4, 5, 6, 7, 8, 9, 10, 11, 12] [] [0, 1, 2, 3, 4, 5, 6, 7, 8] [0, 1, 2, 3, 4, 5, 6, 7, 8, 9, 10, 11, 12] rfl rfl rfl rfl (by decide) (by decide) (by decide) rfl (by decide) 0 rfl rfl rfl rfl rfl hl.1 (Nat.le_of_ble_eq_true rfl) d_B_resolve_174 (fun H locs hP hD hS => ?_)
    refine lv_aload_n hx hb d_B_resolve_177 rfl (lv_at hl 1 rfl) ?_
    refine lv_dup hx hb d_B_resolve_178 rfl ?_
    refine va_get (D := D) (ci := 0) (v := .int cc) (C := R_B) (T := F_B) (N := 11) hx hb ht iC_B hown hK hP 0 rfl rfl 2 (by decide) (ht _ ix_38) (fun _ h9 => h9) rfl d_B_resolve_179 ?_
    refine lv_iconst (v := 1) hx hb d_B_resolve_182 (by decide) ?_
    refine lv_isub hx hb d_B_resolve_183 ?_
    refine va_put (D := D) (ci := 0) (v := .int (cc - (1 : Int32))) (ty := .int) (C := R_B) (T := F_B) (N := 11) hx hb ht iC_B t_B t_B_ok n_B hown hK hP hD hS 0 rfl rfl 2 (by decide) (ht _ ix_38) (fun _ h9 => h9) rfl (by decide +kernel) rfl rfl (Nat.le_of_ble_eq_true rfl) d_B_resolve_184 (fun H locs hP hD hS => ?_)
    have hP : va_P D classes (wB a k v_4.1 v_4.2 (cc - (1 : Int32)) (ci + (y1 + y0)) od sd go ta we oe fp ro sp qr qs) H := hP
    have hD : va_D A (wB a k v_4.1 v_4.2 (cc - (1 : Int32)) (ci + (y1 + y0)) od sd go ta we oe fp ro sp qr qs) := hD
    refine lv_aload_n hx hb d_B_resolve_187 rfl (lv_at hl 1 rfl) ?_
    obtain ⟨v_5, e_5, h⟩ := bd_some h
    refine go_Vv (As := []) (rest := []) (wc := (wB a k v_4.1 v_4.2 (cc - (1 : Int32)) (ci + (y1 + y0)) od sd go ta we oe fp ro sp qr qs)) (wr := []) (w1 := (wB a k v_4.1 v_4.2 (cc - (1 : Int32)) (ci + (y1 + y0)) v_5.1 sd go ta v_5.2 oe fp ro sp qr qs)) (w2 := (wB a k v_4.1 v_4.2 (cc - (1 : Int32)) (ci + (y1 + y0)) v_5.1 sd go ta v_5.2 oe fp ro sp qr qs)) (tc := [(k 1, .int), (k 2, .int), (k 3, .int), (k 4, .int), (k 5, .boolean), (k 6, .int), (k 8, .int), (k 9, .int), (k 11, .long)]) hx hb hml hown ht (c_B_orderAsGiven l D a k H.size v_4.1 v_4.2 (cc - (1 : Int32)) (ci + (y1 + y0)) od sd go ta we oe fp ro sp qr qs v_5 e_5) g_B_54 ⟨rfl, rfl⟩ (n := 0) (by decide +kernel) ⟨(Nat.le_of_ble_eq_true rfl), (Nat.le_of_ble_eq_true rfl)⟩ hP hD hK hS hA ⟨Nat.zero_le _, Nat.zero_le _⟩ [0, 1, 2, 3, 4, 5, 6, 7, 8, 9, 10, 11, 12] [] [0, 1, 2, 3, 4, 5, 6, 7, 8] [0, 1, 2, 3, 4, 5, 6, 7, 8, 9, 10, 11, 12] rfl rfl rfl rfl (by decide) (by decide) (by decide) rfl (by decide) 0 rfl rfl rfl rfl rfl hl.1 (Nat.le_of_ble_eq_true rfl) d_B_resolve_188 (fun H locs hP hD hS => ?_)
    refine lv_iconst (v := 1) hx hb d_B_resolve_191 (by decide) ?_
    cases h
    exact W.zret hx hb hr rfl (fun t ht hW => ⟨⟨_, (), rfl, rfl, by rw [ht]; exact hP, va_K.moved hW.alike hK, hD⟩, hS.F ht⟩) hS.2.2 d_B_resolve_192 hlk
  · have h := ite_F c_1 h
    refine lv_iconst (v := 0) hx hb d_B_resolve_137 (by decide) ?_
    cases h
    exact W.zret hx hb hr rfl (fun t ht hW => ⟨⟨_, (), rfl, rfl, by rw [ht]; exact hP, va_K.moved hW.alike hK, hD⟩, hS.F ht⟩) hS.2.2 d_B_resolve_138 hlk
set_option maxHeartbeats 4000000 in
set_option maxRecDepth 100000 in
theorem k_B_resolve_110 {p : Program} {l : Launch} {e : Env} {s : State} {m : MethodId} {args : Array Value} {below : List Frame} {meth : Method} {c : Code} {D : va_G} {A : Nat → Prop} {a : Nat → Nat} {k : Nat → ClassId} {go : Nat → Int32} {ta : Nat → Int32} {oe : Nat → Int32} {fp : Nat → Int32} {ro : Nat → Int64} {sp : Nat → Int64} {qr : Nat} {qs : Nat} (C : cx D [(k 1, .int), (k 2, .int), (k 3, .int), (k 4, .int), (k 5, .boolean), (k 6, .int), (k 8, .int), (k 9, .int), (k 11, .long)] R_B b_B_resolve 10 (some .boolean) A p s m args meth c) : H_B_resolve_110 p l e s m args below meth c D A a k go ta oe fp ro sp qr qs (J_B_resolve_110) := by
  obtain ⟨hx, hb, hr, hml, hown, ht, hlk, hA, hK⟩ := id C
  intro x1 x5 x6 x7 x8 y0 lab sg cc ci od sd we r h H locs ls hP hD hS hl
  unfold J_B_resolve_110 at h
  refine lv_iload hx hb d_B_resolve_110 (lv_at hl 4 rfl) ?_
  refine lv_iload hx hb d_B_resolve_112 (lv_at hl 5 rfl) ?_
  refine lv_icmp_ne (tgt := 121) hx hb d_B_resolve_114 (by decide) (fun c_1 => ?_) (fun c_1 => ?_)
  · have h := ite_F c_1 h
    refine lv_iconst (v := 0) hx hb d_B_resolve_121 (by decide) ?_
    exact (k_B_resolve_122 C) _ _ _ _ _ _ _ _ _ _ _ _ _ _ _ h _ _ _ hP hD hS (lv_sub hl [0, 1, 2, 3, 4, 5] rfl)
  · have h := ite_T c_1 h
    refine lv_iconst (v := 1) hx hb d_B_resolve_117 (by decide) ?_
    refine lv_goto (tgt := 122) hx hb d_B_resolve_118 (by decide) ?_
    exact (k_B_resolve_122 C) _ _ _ _ _ _ _ _ _ _ _ _ _ _ _ h _ _ _ hP hD hS (lv_sub hl [0, 1, 2, 3, 4, 5] rfl)
set_option maxHeartbeats 4000000 in
set_option maxRecDepth 100000 in
theorem k_B_resolve_30 {p : Program} {l : Launch} {e : Env} {s : State} {m : MethodId} {args : Array Value} {below : List Frame} {meth : Method} {c : Code} {D : va_G} {A : Nat → Prop} {a : Nat → Nat} {k : Nat → ClassId} {go : Nat → Int32} {ta : Nat → Int32} {oe : Nat → Int32} {fp : Nat → Int32} {ro : Nat → Int64} {sp : Nat → Int64} {qr : Nat} {qs : Nat} (C : cx D [(k 1, .int), (k 2, .int), (k 3, .int), (k 4, .int), (k 5, .boolean), (k 6, .int), (k 8, .int), (k 9, .int), (k 11, .long)] R_B b_B_resolve 10 (some .boolean) A p s m args meth c) : H_B_resolve_30 p l e s m args below meth c D A a k go ta oe fp ro sp qr qs (J_B_resolve_30) := by
  obtain ⟨hx, hb, hr, hml, hown, ht, hlk, hA, hK⟩ := id C
  intro x1 x3 y0 lab sg cc ci od sd we r h H locs ls hP hD hS hl
  unfold J_B_resolve_30 at h
  refine lv_istore (lv' := [(4, .int y0), (0, .ref (a 0)), (1, .int x1), (3, .int x3)]) hx hb d_B_resolve_30 hl (by decide) rfl (fun ls hl => ?_)
  refine lv_aload_n hx hb d_B_resolve_32 rfl (lv_at hl 1 rfl) ?_
  refine va_get (D := D) (ci := 0) (v := .ref (a 1)) (C := R_B) (T := F_B) (N := 11) hx hb ht iC_B hown hK hP 0 rfl rfl 0 (by decide) (ht _ ix_43) (fun _ h9 => h9) rfl d_B_resolve_33 ?_
  refine lv_iload_n hx hb d_B_resolve_36 rfl (lv_at hl 3 rfl) ?_
  refine lv_iload hx hb d_B_resolve_37 (lv_at hl 0 rfl) ?_
  refine lv_iadd hx hb d_B_resolve_39 ?_
  obtain ⟨g_1, h⟩ := gd_some h
  refine va_iald hx hb hK hP 1 0 rfl rfl (inb_in g_1) d_B_resolve_40 ?_
  refine lv_istore (lv' := [(5, .int (lab (x3 + y0).toNatClampNeg)), (4, .int y0), (0, .ref (a 0)), (1, .int x1), (3, .int x3)]) hx hb d_B_resolve_41 hl (by decide) rfl (fun ls hl => ?_)
  refine lv_aload_n hx hb d_B_resolve_43 rfl (lv_at hl 2 rfl) ?_
  refine va_get (D := D) (ci := 0) (v := .ref (a 1)) (C := R_B) (T := F_B) (N := 11) hx hb ht iC_B hown hK hP 0 rfl rfl 0 (by decide) (ht _ ix_43) (fun _ h9 => h9) rfl d_B_resolve_44 ?_
  refine lv_iload_n hx hb d_B_resolve_47 rfl (lv_at hl 4 rfl) ?_
  refine lv_iload hx hb d_B_resolve_48 (lv_at hl 1 rfl) ?_
  refine lv_iadd hx hb d_B_resolve_50 ?_
  refine lv_iconst (v := 1) hx hb d_B_resolve_51 (by decide) ?_
  refine lv_iadd hx hb d_B_resolve_52 ?_
  obtain ⟨g_2, h⟩ := gd_some h
  refine va_iald hx hb hK hP 1 0 rfl rfl (inb_in g_2) d_B_resolve_53 ?_
  refine lv_istore (lv' := [(6, .int (lab ((x3 + y0) + (1 : Int32)).toNatClampNeg)), (5, .int (lab (x3 + y0).toNatClampNeg)), (4, .int y0), (0, .ref (a 0)), (1, .int x1), (3, .int x3)]) hx hb d_B_resolve_54 hl (by decide) rfl (fun ls hl => ?_)
  refine lv_aload_n hx hb d_B_resolve_56 rfl (lv_at hl 3 rfl) ?_
  refine va_get (D := D) (ci := 0) (v := .ref (a 1)) (C := R_B) (T := F_B) (N := 11) hx hb ht iC_B hown hK hP 0 rfl rfl 0 (by decide) (ht _ ix_43) (fun _ h9 => h9) rfl d_B_resolve_57 ?_
  refine lv_iload_n hx hb d_B_resolve_60 rfl (lv_at hl 5 rfl) ?_
  refine lv_iload hx hb d_B_resolve_61 (lv_at hl 2 rfl) ?_
  refine lv_iadd hx hb d_B_resolve_63 ?_
  refine lv_iconst (v := 2) hx hb d_B_resolve_64 (by decide) ?_
  refine lv_iadd hx hb d_B_resolve_65 ?_
  obtain ⟨g_3, h⟩ := gd_some h
  refine va_iald hx hb hK hP 1 0 rfl rfl (inb_in g_3) d_B_resolve_66 ?_
  refine lv_iload hx hb d_B_resolve_67 (lv_at hl 1 rfl) ?_
  refine lv_iload hx hb d_B_resolve_69 (lv_at hl 0 rfl) ?_
  obtain ⟨v_4, e_4, h⟩ := bd_some h
  refine go_Si (r := v_4) (As := [.int (lab ((x3 + y0) + (2 : Int32)).toNatClampNeg), .int (lab (x3 + y0).toNatClampNeg), .int (lab ((x3 + y0) + (1 : Int32)).toNatClampNeg)]) (rest := []) (wc := (wN a k )) (wr := [((a 0), .inr (0, [.ref (a 1), .ref (a 2), .int cc, .int ci, .ref (a 3), .ref (a 4), .ref (a 5), .ref (a 6), .ref (a 7), .ref (a 10), .int we])), ((a 1), .inl (k 1, 40, .inl lab)), ((a 2), .inl (k 2, 10, .inl sg)), ((a 3), .inl (k 3, 10, .inl od)), ((a 4), .inl (k 4, 100, .inl sd)), ((a 5), .inl (k 5, 10, .inl go)), ((a 6), .inl (k 6, 330, .inl ta)), ((a 7), .inr (1, [.ref (a 8), .ref (a 9)])), ((a 8), .inl (k 8, 40, .inl oe)), ((a 9), .inl (k 9, 100, .inl fp)), ((a 10), .inr (2, [.ref qr, .ref qs])), (qr, .inl (k 11, 133, .inr (.inl ro))), (qs, .inl (k 11, 133, .inr (.inl sp)))]) (w1 := (wN a k )) (w2 := (wB a k lab sg cc ci od sd go ta we oe fp ro sp qr qs)) (tc := []) hx hb hml hown ht (c_B_renamed l D a k H.size (lab ((x3 + y0) + (2 : Int32)).toNatClampNeg) (lab (x3 + y0).toNatClampNeg) (lab ((x3 + y0) + (1 : Int32)).toNatClampNeg) v_4 e_4) g_B_120 ⟨rfl, rfl⟩ (n := 3) (by decide +kernel) ⟨(Nat.le_of_ble_eq_true rfl), (Nat.le_of_ble_eq_true rfl)⟩ hP hD hK hS hA ⟨Nat.zero_le _, Nat.zero_le _⟩ [] [0, 1, 2, 3, 4, 5, 6, 7, 8, 9, 10, 11, 12] [] [0, 1, 2, 3, 4, 5, 6, 7, 8, 9, 10, 11, 12] rfl rfl rfl rfl (by decide) (by decide) (by decide) rfl (by decide) rfl rfl hl.1 (Nat.le_of_ble_eq_true rfl) d_B_resolve_71 (fun H locs hP hD hS => ?_)
  refine lv_istore (lv' := [(7, .int v_4), (6, .int (lab ((x3 + y0) + (1 : Int32)).toNatClampNeg)), (5, .int (lab (x3 + y0).toNatClampNeg)), (4, .int y0), (0, .ref (a 0)), (1, .int x1), (3, .int x3)]) hx hb d_B_resolve_74 hl (by decide) rfl (fun ls hl => ?_)
  refine lv_aload_n hx hb d_B_resolve_76 rfl (lv_at hl 4 rfl) ?_
  refine va_get (D := D) (ci := 0) (v := .ref (a 1)) (C := R_B) (T := F_B) (N := 11) hx hb ht iC_B hown hK hP 0 rfl rfl 0 (by decide) (ht _ ix_43) (fun _ h9 => h9) rfl d_B_resolve_77 ?_
  refine lv_iload_n hx hb d_B_resolve_80 rfl (lv_at hl 6 rfl) ?_
  refine lv_iload hx hb d_B_resolve_81 (lv_at hl 3 rfl) ?_
  refine lv_iconst (v := 3) hx hb d_B_resolve_83 (by decide) ?_
  refine lv_iadd hx hb d_B_resolve_84 ?_
  refine lv_iconst (v := 4) hx hb d_B_resolve_85 (by decide) ?_
  refine lv_irem hx hb d_B_resolve_86 (by decide) ?_
  refine lv_iadd hx hb d_B_resolve_87 ?_
  obtain ⟨g_5, h⟩ := gd_some h
  refine va_iald hx hb hK hP 1 0 rfl rfl (inb_in g_5) d_B_resolve_88 ?_
  refine lv_iload hx hb d_B_resolve_89 (lv_at hl 2 rfl) ?_
  refine lv_iload hx hb d_B_resolve_91 (lv_at hl 1 rfl) ?_
  obtain ⟨v_6, e_6, h⟩ := bd_some h
  refine go_Si (r := v_6) (As := [.int (lab (x3 + ((y0 + (3 : Int32)) - (y0 + (3 : Int32)) / (4 : Int32) * (4 : Int32))).toNatClampNeg), .int (lab (x3 + y0).toNatClampNeg), .int (lab ((x3 + y0) + (1 : Int32)).toNatClampNeg)]) (rest := []) (wc := (wN a k )) (wr := [((a 0), .inr (0, [.ref (a 1), .ref (a 2), .int cc, .int ci, .ref (a 3), .ref (a 4), .ref (a 5), .ref (a 6), .ref (a 7), .ref (a 10), .int we])), ((a 1), .inl (k 1, 40, .inl lab)), ((a 2), .inl (k 2, 10, .inl sg)), ((a 3), .inl (k 3, 10, .inl od)), ((a 4), .inl (k 4, 100, .inl sd)), ((a 5), .inl (k 5, 10, .inl go)), ((a 6), .inl (k 6, 330, .inl ta)), ((a 7), .inr (1, [.ref (a 8), .ref (a 9)])), ((a 8), .inl (k 8, 40, .inl oe)), ((a 9), .inl (k 9, 100, .inl fp)), ((a 10), .inr (2, [.ref qr, .ref qs])), (qr, .inl (k 11, 133, .inr (.inl ro))), (qs, .inl (k 11, 133, .inr (.inl sp)))]) (w1 := (wN a k )) (w2 := (wB a k lab sg cc ci od sd go ta we oe fp ro sp qr qs)) (tc := []) hx hb hml hown ht (c_B_renamed l D a k H.size (lab (x3 + ((y0 + (3 : Int32)) - (y0 + (3 : Int32)) / (4 : Int32) * (4 : Int32))).toNatClampNeg) (lab (x3 + y0).toNatClampNeg) (lab ((x3 + y0) + (1 : Int32)).toNatClampNeg) v_6 e_6) g_B_120 ⟨rfl, rfl⟩ (n := 3) (by decide +kernel) ⟨(Nat.le_of_ble_eq_true rfl), (Nat.le_of_ble_eq_true rfl)⟩ hP hD hK hS hA ⟨Nat.zero_le _, Nat.zero_le _⟩ [] [0, 1, 2, 3, 4, 5, 6, 7, 8, 9, 10, 11, 12] [] [0, 1, 2, 3, 4, 5, 6, 7, 8, 9, 10, 11, 12] rfl rfl rfl rfl (by decide) (by decide) (by decide) rfl (by decide) rfl rfl hl.1 (Nat.le_of_ble_eq_true rfl) d_B_resolve_93 (fun H locs hP hD hS => ?_)
  refine lv_istore (lv' := [(8, .int v_6), (7, .int v_4), (6, .int (lab ((x3 + y0) + (1 : Int32)).toNatClampNeg)), (5, .int (lab (x3 + y0).toNatClampNeg)), (4, .int y0), (0, .ref (a 0)), (1, .int x1), (3, .int x3)]) hx hb d_B_resolve_96 hl (by decide) rfl (fun ls hl => ?_)
  refine lv_iload hx hb d_B_resolve_98 (lv_at hl 3 rfl) ?_
  refine lv_iload hx hb d_B_resolve_100 (lv_at hl 2 rfl) ?_
  refine lv_icmp_ne (tgt := 109) hx hb d_B_resolve_102 (by decide) (fun c_7 => ?_) (fun c_7 => ?_)
  · have h := ite_F c_7 h
    refine lv_iconst (v := 0) hx hb d_B_resolve_109 (by decide) ?_
    exact (k_B_resolve_110 C) _ _ _ _ _ _ _ _ _ _ _ _ _ _ h _ _ _ hP hD hS (lv_sub hl [5, 6, 3, 2, 1, 0] rfl)
  · have h := ite_T c_7 h
    refine lv_iconst (v := 1) hx hb d_B_resolve_105 (by decide) ?_
    refine lv_goto (tgt := 110) hx hb d_B_resolve_106 (by decide) ?_
    exact (k_B_resolve_110 C) _ _ _ _ _ _ _ _ _ _ _ _ _ _ h _ _ _ hP hD hS (lv_sub hl [5, 6, 3, 2, 1, 0] rfl)
set_option maxHeartbeats 4000000 in
set_option maxRecDepth 100000 in
theorem k_B_resolve_0 {p : Program} {l : Launch} {e : Env} {s : State} {m : MethodId} {args : Array Value} {below : List Frame} {meth : Method} {c : Code} {D : va_G} {A : Nat → Prop} {a : Nat → Nat} {k : Nat → ClassId} {go : Nat → Int32} {ta : Nat → Int32} {oe : Nat → Int32} {fp : Nat → Int32} {ro : Nat → Int64} {sp : Nat → Int64} {qr : Nat} {qs : Nat} (C : cx D [(k 1, .int), (k 2, .int), (k 3, .int), (k 4, .int), (k 5, .boolean), (k 6, .int), (k 8, .int), (k 9, .int), (k 11, .long)] R_B b_B_resolve 10 (some .boolean) A p s m args meth c) : H_B_resolve_0 p l e s m args below meth c D A a k go ta oe fp ro sp qr qs (J_B_resolve_0) := by
  obtain ⟨hx, hb, hr, hml, hown, ht, hlk, hA, hK⟩ := id C
  intro x1 x2 lab sg cc ci od sd we r h H locs ls hP hD hS hl
  unfold J_B_resolve_0 at h
  refine lv_aload_n hx hb d_B_resolve_0 rfl (lv_at hl 0 rfl) ?_
  refine lv_iload_n hx hb d_B_resolve_1 rfl (lv_at hl 1 rfl) ?_
  obtain ⟨v_1, e_1, h⟩ := bd_some h
  refine go_Vi (r := v_1) (As := [.int x1]) (rest := []) (wc := (wB a k lab sg cc ci od sd go ta we oe fp ro sp qr qs)) (wr := []) (w1 := (wB a k lab sg cc ci od sd go ta we oe fp ro sp qr qs)) (w2 := (wB a k lab sg cc ci od sd go ta we oe fp ro sp qr qs)) (tc := [(k 1, .int), (k 2, .int), (k 3, .int), (k 4, .int), (k 5, .boolean), (k 6, .int), (k 8, .int), (k 9, .int), (k 11, .long)]) hx hb hml hown ht (c_B_isCrossing l D a k H.size x1 lab sg cc ci od sd go ta we oe fp ro sp qr qs v_1 e_1) g_B_64 ⟨rfl, rfl⟩ (n := 1) (by decide +kernel) ⟨(Nat.le_of_ble_eq_true rfl), (Nat.le_of_ble_eq_true rfl)⟩ hP hD hK hS hA ⟨Nat.zero_le _, Nat.zero_le _⟩ [0, 1, 2, 3, 4, 5, 6, 7, 8, 9, 10, 11, 12] [] [0, 1, 2, 3, 4, 5, 6, 7, 8] [0, 1, 2, 3, 4, 5, 6, 7, 8, 9, 10, 11, 12] rfl rfl rfl rfl (by decide) (by decide) (by decide) rfl (by decide) 0 rfl rfl rfl rfl rfl hl.1 (Nat.le_of_ble_eq_true rfl) d_B_resolve_2 (fun H locs hP hD hS => ?_)
  refine lv_if_eq (tgt := 15) hx hb d_B_resolve_5 (by decide) (fun c_2 => ?_) (fun c_2 => ?_)
  · have h := ite_T c_2 h
    refine lv_iconst (v := 0) hx hb d_B_resolve_15 (by decide) ?_
    cases h
    exact W.zret hx hb hr rfl (fun t ht hW => ⟨⟨_, (), rfl, rfl, by rw [ht]; exact hP, va_K.moved hW.alike hK, hD⟩, hS.F ht⟩) hS.2.2 d_B_resolve_16 hlk
  · have h := ite_F c_2 h
    refine lv_aload_n hx hb d_B_resolve_8 rfl (lv_at hl 0 rfl) ?_
    obtain ⟨v_3, e_3, h⟩ := bd_some h
    refine go_Vi (r := v_3.1) (As := []) (rest := []) (wc := (wB a k lab sg cc ci od sd go ta we oe fp ro sp qr qs)) (wr := []) (w1 := (wB a k lab sg cc ci od v_3.2 go ta we oe fp ro sp qr qs)) (w2 := (wB a k lab sg cc ci od v_3.2 go ta we oe fp ro sp qr qs)) (tc := [(k 1, .int), (k 2, .int), (k 3, .int), (k 4, .int), (k 5, .boolean), (k 6, .int), (k 8, .int), (k 9, .int), (k 11, .long)]) hx hb hml hown ht (c_B_isCode l D a k H.size lab sg cc ci od sd go ta we oe fp ro sp qr qs v_3 e_3) g_B_67 ⟨rfl, rfl⟩ (n := 0) (by decide +kernel) ⟨(Nat.le_of_ble_eq_true rfl), (Nat.le_of_ble_eq_true rfl)⟩ hP hD hK hS hA ⟨Nat.zero_le _, Nat.zero_le _⟩ [0, 1, 2, 3, 4, 5, 6, 7, 8, 9, 10, 11, 12] [] [0, 1, 2, 3, 4, 5, 6, 7, 8] [0, 1, 2, 3, 4, 5, 6, 7, 8, 9, 10, 11, 12] rfl rfl rfl rfl (by decide) (by decide) (by decide) rfl (by decide) 0 rfl rfl rfl rfl rfl hl.1 (Nat.le_of_ble_eq_true rfl) d_B_resolve_9 (fun H locs hP hD hS => ?_)
    refine lv_if_ne (tgt := 17) hx hb d_B_resolve_12 (by decide) (fun c_4 => ?_) (fun c_4 => ?_)
    · have h := ite_F c_4 h
      refine lv_iconst (v := 4) hx hb d_B_resolve_17 (by decide) ?_
      refine lv_iload_n hx hb d_B_resolve_18 rfl (lv_at hl 1 rfl) ?_
      refine lv_imul hx hb d_B_resolve_19 ?_
      refine lv_istore_n (lv' := [(3, .int ((4 : Int32) * x1)), (0, .ref (a 0)), (1, .int x1), (2, .int x2)]) hx hb d_B_resolve_20 rfl hl (by decide) rfl (fun ls hl => ?_)
      refine lv_iload_n hx hb d_B_resolve_21 rfl (lv_at hl 3 rfl) ?_
      refine lv_if_eq (tgt := 29) hx hb d_B_resolve_22 (by decide) (fun c_5 => ?_) (fun c_5 => ?_)
      · have h := ite_T c_5 h
        refine lv_iconst (v := 1) hx hb d_B_resolve_29 (by decide) ?_
        exact (k_B_resolve_30 C) _ _ _ _ _ _ _ _ _ _ _ h _ _ _ hP hD hS (lv_sub hl [1, 2, 0] rfl)
      · have h := ite_F c_5 h
        refine lv_iconst (v := 0) hx hb d_B_resolve_25 (by decide) ?_
        refine lv_goto (tgt := 30) hx hb d_B_resolve_26 (by decide) ?_
        exact (k_B_resolve_30 C) _ _ _ _ _ _ _ _ _ _ _ h _ _ _ hP hD hS (lv_sub hl [1, 2, 0] rfl)
    · have h := ite_T c_4 h
      refine lv_iconst (v := 0) hx hb d_B_resolve_15 (by decide) ?_
      cases h
      exact W.zret hx hb hr rfl (fun t ht hW => ⟨⟨_, (), rfl, rfl, by rw [ht]; exact hP, va_K.moved hW.alike hK, hD⟩, hS.F ht⟩) hS.2.2 d_B_resolve_16 hlk
set_option maxRecDepth 20000 in
theorem c_B_resolve (l : Launch) (D : va_G) (a : Nat → Nat) (k : Nat → ClassId) (sz : Nat) (x1 : Int32) (x2 : Int32) (lab : Nat → Int32) (sg : Nat → Int32) (cc : Int32) (ci : Int32) (od : Nat → Int32) (sd : Nat → Int32) (go : Nat → Int32) (ta : Nat → Int32) (we : Int32) (oe : Nat → Int32) (fp : Nat → Int32) (ro : Nat → Int64) (sp : Nat → Int64) (qr : Nat) (qs : Nat) (r : Int32 × (Nat → Int32) × (Nat → Int32) × Int32 × Int32 × (Nat → Int32) × (Nat → Int32) × Int32) (h : F_B_resolve x1 x2 lab sg cc ci od sd we = some r) : Met l y_B_resolve (Cond.code y_B_resolve b_B_resolve 10 (some .boolean) :: lw_g) (rm_B_resolve) (va_Pc [.ref (a 0), .int x1, .int x2] (pcW D [(k 1, .int), (k 2, .int), (k 3, .int), (k 4, .int), (k 5, .boolean), (k 6, .int), (k 8, .int), (k 9, .int), (k 11, .long)] (wB a k lab sg cc ci od sd go ta we oe fp ro sp qr qs) sz)) (qc_B_resolve D (va_A (wB a k lab sg cc ci od sd go ta we oe fp ro sp qr qs) sz) a k go ta oe fp ro sp qr qs r) 0 0 (va_A (wB a k lab sg cc ci od sd go ta we oe fp ro sp qr qs) sz) := by
  refine Met.ofW (cc := b_B_resolve) (maxL := 10) (ret := (some .boolean)) (by decide) rfl ?_
  intro p e s m args below meth c s₁ B hml hv
  obtain ⟨rfl, hsz, hP, hK, hD0⟩ := hv
  have hts := atoms_spec (ws := Cond.code y_B_resolve b_B_resolve 10 (some .boolean) :: lw_g) B.pre
  subst hsz
  have hD := hD0.self (sz := s.heap.size)
  have hl := lv_entry ([.ref (a 0), .int x1, .int x2]) (n := 10) (Nat.le_of_ble_eq_true rfl)
  rw [lg_entry_eq]
  generalize (lg_sl ([.ref (a 0), .int x1, .int x2]) ++ List.replicate (10 - (lg_sl ([.ref (a 0), .int x1, .int x2])).length) Slot.unset).toArray = ls at hl ⊢
  exact k_B_resolve_0 ⟨B.exec, B.bytes, B.returns, hml, findClass_of_methodNamed B.named, fun w hw => hts w (List.mem_cons_of_mem _ hw), B.notSynchronized, fun q h => Or.inr h, hK⟩ _ _ _ _ _ _ _ _ _ _ h _ _ _ hP hD va_S.rf hl

def rm_B_change : Room := { frames := 1, cells := 0, slots := 0, locals := 21 }
def qc_B_change (D : va_G) (A : Nat → Prop) (a : Nat → Nat) (k : Nat → ClassId) (cc : Int32) (ci : Int32) (sd : Nat → Int32) (go : Nat → Int32) (ta : Nat → Int32) (oe : Nat → Int32) (fp : Nat → Int32) (ro : Nat → Int64) (sp : Nat → Int64) (qr : Nat) (qs : Nat) (r : Int32 × (Nat → Int32) × (Nat → Int32) × (Nat → Int32) × Int32) : Array Value → State → Outcome → State → Prop := va_Qi (fun (r1 : Int32) (_ : Unit) => r1 = r.1) (poW D [(k 1, .int), (k 2, .int), (k 3, .int), (k 4, .int), (k 5, .boolean), (k 6, .int), (k 8, .int), (k 9, .int), (k 11, .long)] (wB a k r.2.1 r.2.2.1 cc ci r.2.2.2.1 sd go ta r.2.2.2.2 oe fp ro sp qr qs) A) A
def J_B_change_0 (x1 : Int32) (lab : Nat → Int32) (sg : Nat → Int32) (cc : Int32) (od : Nat → Int32) (we : Int32) : Option (Int32 × (Nat → Int32) × (Nat → Int32) × (Nat → Int32) × Int32) :=
  (Option.bind (F_B_isCrossing x1 cc) (fun v_1 => (if v_1 = 0 then some ((0 : Int32), lab, sg, od, we) else (if inb ((4 : Int32) * x1) 40 then (if inb (((4 : Int32) * x1) + (1 : Int32)) 40 then (if inb ((4 : Int32) * x1) 40 then (if inb (((4 : Int32) * x1) + (2 : Int32)) 40 then (if inb (((4 : Int32) * x1) + (1 : Int32)) 40 then (if inb (((4 : Int32) * x1) + (3 : Int32)) 40 then (if inb (((4 : Int32) * x1) + (2 : Int32)) 40 then (if inb (((4 : Int32) * x1) + (3 : Int32)) 40 then (if inb x1 10 then (if inb x1 10 then (Option.bind (F_B_orderAsGiven od we) (fun v_13 => some ((1 : Int32), (upd (upd (upd (upd lab ((4 : Int32) * x1).toNatClampNeg (lab (((4 : Int32) * x1) + (1 : Int32)).toNatClampNeg)) (((4 : Int32) * x1) + (1 : Int32)).toNatClampNeg ((upd lab ((4 : Int32) * x1).toNatClampNeg (lab (((4 : Int32) * x1) + (1 : Int32)).toNatClampNeg)) (((4 : Int32) * x1) + (2 : Int32)).toNatClampNeg)) (((4 : Int32) * x1) + (2 : Int32)).toNatClampNeg ((upd (upd lab ((4 : Int32) * x1).toNatClampNeg (lab (((4 : Int32) * x1) + (1 : Int32)).toNatClampNeg)) (((4 : Int32) * x1) + (1 : Int32)).toNatClampNeg ((upd lab ((4 : Int32) * x1).toNatClampNeg (lab (((4 : Int32) * x1) + (1 : Int32)).toNatClampNeg)) (((4 : Int32) * x1) + (2 : Int32)).toNatClampNeg)) (((4 : Int32) * x1) + (3 : Int32)).toNatClampNeg)) (((4 : Int32) * x1) + (3 : Int32)).toNatClampNeg (lab ((4 : Int32) * x1).toNatClampNeg)), (upd sg x1.toNatClampNeg (-(sg x1.toNatClampNeg))), v_13.1, v_13.2))) else none) else none) else none) else none) else none) else none) else none) else none) else none) else none))))
def F_B_change (x1 : Int32) (lab : Nat → Int32) (sg : Nat → Int32) (cc : Int32) (od : Nat → Int32) (we : Int32) : Option (Int32 × (Nat → Int32) × (Nat → Int32) × (Nat → Int32) × Int32) := J_B_change_0 x1 lab sg cc od we
def H_B_change_0 (p : Program) (l : Launch) (e : Env) (s : State) (m : MethodId) (args : Array Value) (below : List Frame) (meth : Method) (c : Code) (D : va_G) (A : Nat → Prop) (a : Nat → Nat) (k : Nat → ClassId) (ci : Int32) (sd : Nat → Int32) (go : Nat → Int32) (ta : Nat → Int32) (oe : Nat → Int32) (fp : Nat → Int32) (ro : Nat → Int64) (sp : Nat → Int64) (qr : Nat) (qs : Nat) (f : Int32 → (Nat → Int32) → (Nat → Int32) → Int32 → (Nat → Int32) → Int32 → Option (Int32 × (Nat → Int32) × (Nat → Int32) × (Nat → Int32) × Int32)) : Prop := ∀ (x1 : Int32) (lab : Nat → Int32) (sg : Nat → Int32) (cc : Int32) (od : Nat → Int32) (we : Int32) (r : Int32 × (Nat → Int32) × (Nat → Int32) × (Nat → Int32) × Int32), f x1 lab sg cc od we = some r → ∀ (H : Heap) (locs : List Loc) (ls : Array Slot), va_P D classes (wB a k lab sg cc ci od sd go ta we oe fp ro sp qr qs) H → va_D A (wB a k lab sg cc ci od sd go ta we oe fp ro sp qr qs) → va_S A s.heap H locs → lv_has ls 4 [(0, .ref (a 0)), (1, .int x1)] → W p l e (rm_B_change) s m args below meth c H locs 0 0 (MQ below (qc_B_change D A a k cc ci sd go ta oe fp ro sp qr qs r) args s 0 0 A) (F0 m 0 ls [])
set_option maxHeartbeats 4000000 in
set_option maxRecDepth 100000 in
theorem k_B_change_0 {p : Program} {l : Launch} {e : Env} {s : State} {m : MethodId} {args : Array Value} {below : List Frame} {meth : Method} {c : Code} {D : va_G} {A : Nat → Prop} {a : Nat → Nat} {k : Nat → ClassId} {ci : Int32} {sd : Nat → Int32} {go : Nat → Int32} {ta : Nat → Int32} {oe : Nat → Int32} {fp : Nat → Int32} {ro : Nat → Int64} {sp : Nat → Int64} {qr : Nat} {qs : Nat} (C : cx D [(k 1, .int), (k 2, .int), (k 3, .int), (k 4, .int), (k 5, .boolean), (k 6, .int), (k 8, .int), (k 9, .int), (k 11, .long)] R_B b_B_change 4 (some .boolean) A p s m args meth c) : H_B_change_0 p l e s m args below meth c D A a k ci sd go ta oe fp ro sp qr qs (J_B_change_0) := by
  obtain ⟨hx, hb, hr, hml, hown, ht, hlk, hA, hK⟩ := id C
  intro x1 lab sg cc od we r h H locs ls hP hD hS hl
  unfold J_B_change_0 at h
  refine lv_aload_n hx hb d_B_change_0 rfl (lv_at hl 0 rfl) ?_
  refine lv_iload_n hx hb d_B_change_1 rfl (lv_at hl 1 rfl) ?_
  obtain ⟨v_1, e_1, h⟩ := bd_some h
  refine go_Vi (r := v_1) (As := [.int x1]) (rest := []) (wc := (wB a k lab sg cc ci od sd go ta we oe fp ro sp qr qs)) (wr := []) (w1 := (wB a k lab sg cc ci od sd go ta we oe fp ro sp qr qs)) (w2 := (wB a k lab sg cc ci od sd go ta we oe fp ro sp qr qs)) (tc := [(k 1, .int), (k 2, .int), (k 3, .int), (k 4, .int), (k 5, .boolean), (k 6, .int), (k 8, .int), (k 9, .int), (k 11, .long)]) hx hb hml hown ht (c_B_isCrossing l D a k H.size x1 lab sg cc ci od sd go ta we oe fp ro sp qr qs v_1 e_1) g_B_64 ⟨rfl, rfl⟩ (n := 1) (by decide +kernel) ⟨(Nat.le_of_ble_eq_true rfl), (Nat.le_of_ble_eq_true rfl)⟩ hP hD hK hS hA ⟨Nat.zero_le _, Nat.zero_le _⟩ [0, 1, 2, 3, 4, 5, 6, 7, 8, 9, 10, 11, 12] [] [0, 1, 2, 3, 4, 5, 6, 7, 8] [0, 1, 2, 3, 4, 5, 6, 7, 8, 9, 10, 11, 12] rfl rfl rfl rfl (by decide) (by decide) (by decide) rfl (by decide) 0 rfl rfl rfl rfl rfl hl.1 (Nat.le_of_ble_eq_true rfl) d_B_change_2 (fun H locs hP hD hS => ?_)
  refine lv_if_ne (tgt := 10) hx hb d_B_change_5 (by decide) (fun c_2 => ?_) (fun c_2 => ?_)
  · have h := ite_F c_2 h
    refine lv_iconst (v := 4) hx hb d_B_change_10 (by decide) ?_
    refine lv_iload_n hx hb d_B_change_11 rfl (lv_at hl 1 rfl) ?_
    refine lv_imul hx hb d_B_change_12 ?_
    refine lv_istore_n (lv' := [(2, .int ((4 : Int32) * x1)), (0, .ref (a 0)), (1, .int x1)]) hx hb d_B_change_13 rfl hl (by decide) rfl (fun ls hl => ?_)
    refine lv_aload_n hx hb d_B_change_14 rfl (lv_at hl 1 rfl) ?_
    refine va_get (D := D) (ci := 0) (v := .ref (a 1)) (C := R_B) (T := F_B) (N := 11) hx hb ht iC_B hown hK hP 0 rfl rfl 0 (by decide) (ht _ ix_43) (fun _ h9 => h9) rfl d_B_change_15 ?_
    refine lv_iload_n hx hb d_B_change_18 rfl (lv_at hl 0 rfl) ?_
    obtain ⟨g_3, h⟩ := gd_some h
    refine va_iald hx hb hK hP 1 0 rfl rfl (inb_in g_3) d_B_change_19 ?_
    refine lv_istore_n (lv' := [(3, .int (lab ((4 : Int32) * x1).toNatClampNeg)), (2, .int ((4 : Int32) * x1)), (0, .ref (a 0)), (1, .int x1)]) hx hb d_B_change_20 rfl hl (by decide) rfl (fun ls hl => ?_)
    refine lv_aload_n hx hb d_B_change_21 rfl (lv_at hl 2 rfl) ?_
    refine va_get (D := D) (ci := 0) (v := .ref (a 1)) (C := R_B) (T := F_B) (N := 11) hx hb ht iC_B hown hK hP 0 rfl rfl 0 (by decide) (ht _ ix_43) (fun _ h9 => h9) rfl d_B_change_22 ?_
    refine lv_iload_n hx hb d_B_change_25 rfl (lv_at hl 1 rfl) ?_
    refine lv_aload_n hx hb d_B_change_26 rfl (lv_at hl 2 rfl) ?_
    refine va_get (D := D) (ci := 0) (v := .ref (a 1)) (C := R_B) (T := F_B) (N := 11) hx hb ht iC_B hown hK hP 0 rfl rfl 0 (by decide) (ht _ ix_43) (fun _ h9 => h9) rfl d_B_change_27 ?_
    refine lv_iload_n hx hb d_B_change_30 rfl (lv_at hl 1 rfl) ?_
    refine lv_iconst (v := 1) hx hb d_B_change_31 (by decide) ?_
    refine lv_iadd hx hb d_B_change_32 ?_
    obtain ⟨g_4, h⟩ := gd_some h
    refine va_iald hx hb hK hP 1 0 rfl rfl (inb_in g_4) d_B_change_33 ?_
    obtain ⟨g_5, h⟩ := gd_some h
    refine va_iast hx hb hK hP hD hS 1 0 rfl rfl (inb_in g_5) d_B_change_34 (fun H locs hP hD hS => ?_)
    have hP : va_P D classes (wB a k (upd lab ((4 : Int32) * x1).toNatClampNeg (lab (((4 : Int32) * x1) + (1 : Int32)).toNatClampNeg)) sg cc ci od sd go ta we oe fp ro sp qr qs) H := hP
    have hD : va_D A (wB a k (upd lab ((4 : Int32) * x1).toNatClampNeg (lab (((4 : Int32) * x1) + (1 : Int32)).toNatClampNeg)) sg cc ci od sd go ta we oe fp ro sp qr qs) := hD
    refine lv_aload_n hx hb d_B_change_35 rfl (lv_at hl 2 rfl) ?_
    refine va_get (D := D) (ci := 0) (v := .ref (a 1)) (C := R_B) (T := F_B) (N := 11) hx hb ht iC_B hown hK hP 0 rfl rfl 0 (by decide) (ht _ ix_43) (fun _ h9 => h9) rfl d_B_change_36 ?_
    refine lv_iload_n hx hb d_B_change_39 rfl (lv_at hl 1 rfl) ?_
    refine lv_iconst (v := 1) hx hb d_B_change_40 (by decide) ?_
    refine lv_iadd hx hb d_B_change_41 ?_
    refine lv_aload_n hx hb d_B_change_42 rfl (lv_at hl 2 rfl) ?_
    refine va_get (D := D) (ci := 0) (v := .ref (a 1)) (C := R_B) (T := F_B) (N := 11) hx hb ht iC_B hown hK hP 0 rfl rfl 0 (by decide) (ht _ ix_43) (fun _ h9 => h9) rfl d_B_change_43 ?_
    refine lv_iload_n hx hb d_B_change_46 rfl (lv_at hl 1 rfl) ?_
    refine lv_iconst (v := 2) hx hb d_B_change_47 (by decide) ?_
    refine lv_iadd hx hb d_B_change_48 ?_
    obtain ⟨g_6, h⟩ := gd_some h
    refine va_iald hx hb hK hP 1 0 rfl rfl (inb_in g_6) d_B_change_49 ?_
    obtain ⟨g_7, h⟩ := gd_some h
    refine va_iast hx hb hK hP hD hS 1 0 rfl rfl (inb_in g_7) d_B_change_50 (fun H locs hP hD hS => ?_)
    have hP : va_P D classes (wB a k (upd (upd lab ((4 : Int32) * x1).toNatClampNeg (lab (((4 : Int32) * x1) + (1 : Int32)).toNatClampNeg)) (((4 : Int32) * x1) + (1 : Int32)).toNatClampNeg ((upd lab ((4 : Int32) * x1).toNatClampNeg (lab (((4 : Int32) * x1) + (1 : Int32)).toNatClampNeg)) (((4 : Int32) * x1) + (2 : Int32)).toNatClampNeg)) sg cc ci od sd go ta we oe fp ro sp qr qs) H := hP
    have hD : va_D A (wB a k (upd (upd lab ((4 : Int32) * x1).toNatClampNeg (lab (((4 : Int32) * x1) + (1 : Int32)).toNatClampNeg)) (((4 : Int32) * x1) + (1 : Int32)).toNatClampNeg ((upd lab ((4 : Int32) * x1).toNatClampNeg (lab (((4 : Int32) * x1) + (1 : Int32)).toNatClampNeg)) (((4 : Int32) * x1) + (2 : Int32)).toNatClampNeg)) sg cc ci od sd go ta we oe fp ro sp qr qs) := hD
    refine lv_aload_n hx hb d_B_change_51 rfl (lv_at hl 2 rfl) ?_
    refine va_get (D := D) (ci := 0) (v := .ref (a 1)) (C := R_B) (T := F_B) (N := 11) hx hb ht iC_B hown hK hP 0 rfl rfl 0 (by decide) (ht _ ix_43) (fun _ h9 => h9) rfl d_B_change_52 ?_
    refine lv_iload_n hx hb d_B_change_55 rfl (lv_at hl 1 rfl) ?_
    refine lv_iconst (v := 2) hx hb d_B_change_56 (by decide) ?_
    refine lv_iadd hx hb d_B_change_57 ?_
    refine lv_aload_n hx hb d_B_change_58 rfl (lv_at hl 2 rfl) ?_
    refine va_get (D := D) (ci := 0) (v := .ref (a 1)) (C := R_B) (T := F_B) (N := 11) hx hb ht iC_B hown hK hP 0 rfl rfl 0 (by decide) (ht _ ix_43) (fun _ h9 => h9) rfl d_B_change_59 ?_
    refine lv_iload_n hx hb d_B_change_62 rfl (lv_at hl 1 rfl) ?_
    refine lv_iconst (v := 3) hx hb d_B_change_63 (by decide) ?_
    refine lv_iadd hx hb d_B_change_64 ?_
    obtain ⟨g_8, h⟩ := gd_some h
    refine va_iald hx hb hK hP 1 0 rfl rfl (inb_in g_8) d_B_change_65 ?_
    obtain ⟨g_9, h⟩ := gd_some h
    refine va_iast hx hb hK hP hD hS 1 0 rfl rfl (inb_in g_9) d_B_change_66 (fun H locs hP hD hS => ?_)
    have hP : va_P D classes (wB a k (upd (upd (upd lab ((4 : Int32) * x1).toNatClampNeg (lab (((4 : Int32) * x1) + (1 : Int32)).toNatClampNeg)) (((4 : Int32) * x1) + (1 : Int32)).toNatClampNeg ((upd lab ((4 : Int32) * x1).toNatClampNeg (lab (((4 : Int32) * x1) + (1 : Int32)).toNatClampNeg)) (((4 : Int32) * x1) + (2 : Int32)).toNatClampNeg)) (((4 : Int32) * x1) + (2 : Int32)).toNatClampNeg ((upd (upd lab ((4 : Int32) * x1).toNatClampNeg (lab (((4 : Int32) * x1) + (1 : Int32)).toNatClampNeg)) (((4 : Int32) * x1) + (1 : Int32)).toNatClampNeg ((upd lab ((4 : Int32) * x1).toNatClampNeg (lab (((4 : Int32) * x1) + (1 : Int32)).toNatClampNeg)) (((4 : Int32) * x1) + (2 : Int32)).toNatClampNeg)) (((4 : Int32) * x1) + (3 : Int32)).toNatClampNeg)) sg cc ci od sd go ta we oe fp ro sp qr qs) H := hP
    have hD : va_D A (wB a k (upd (upd (upd lab ((4 : Int32) * x1).toNatClampNeg (lab (((4 : Int32) * x1) + (1 : Int32)).toNatClampNeg)) (((4 : Int32) * x1) + (1 : Int32)).toNatClampNeg ((upd lab ((4 : Int32) * x1).toNatClampNeg (lab (((4 : Int32) * x1) + (1 : Int32)).toNatClampNeg)) (((4 : Int32) * x1) + (2 : Int32)).toNatClampNeg)) (((4 : Int32) * x1) + (2 : Int32)).toNatClampNeg ((upd (upd lab ((4 : Int32) * x1).toNatClampNeg (lab (((4 : Int32) * x1) + (1 : Int32)).toNatClampNeg)) (((4 : Int32) * x1) + (1 : Int32)).toNatClampNeg ((upd lab ((4 : Int32) * x1).toNatClampNeg (lab (((4 : Int32) * x1) + (1 : Int32)).toNatClampNeg)) (((4 : Int32) * x1) + (2 : Int32)).toNatClampNeg)) (((4 : Int32) * x1) + (3 : Int32)).toNatClampNeg)) sg cc ci od sd go ta we oe fp ro sp qr qs) := hD
    refine lv_aload_n hx hb d_B_change_67 rfl (lv_at hl 2 rfl) ?_
    refine va_get (D := D) (ci := 0) (v := .ref (a 1)) (C := R_B) (T := F_B) (N := 11) hx hb ht iC_B hown hK hP 0 rfl rfl 0 (by decide) (ht _ ix_43) (fun _ h9 => h9) rfl d_B_change_68 ?_
    refine lv_iload_n hx hb d_B_change_71 rfl (lv_at hl 1 rfl) ?_
    refine lv_iconst (v := 3) hx hb d_B_change_72 (by decide) ?_
    refine lv_iadd hx hb d_B_change_73 ?_
    refine lv_iload_n hx hb d_B_change_74 rfl (lv_at hl 0 rfl) ?_
    obtain ⟨g_10, h⟩ := gd_some h
    refine va_iast hx hb hK hP hD hS 1 0 rfl rfl (inb_in g_10) d_B_change_75 (fun H locs hP hD hS => ?_)
    have hP : va_P D classes (wB a k (upd (upd (upd (upd lab ((4 : Int32) * x1).toNatClampNeg (lab (((4 : Int32) * x1) + (1 : Int32)).toNatClampNeg)) (((4 : Int32) * x1) + (1 : Int32)).toNatClampNeg ((upd lab ((4 : Int32) * x1).toNatClampNeg (lab (((4 : Int32) * x1) + (1 : Int32)).toNatClampNeg)) (((4 : Int32) * x1) + (2 : Int32)).toNatClampNeg)) (((4 : Int32) * x1) + (2 : Int32)).toNatClampNeg ((upd (upd lab ((4 : Int32) * x1).toNatClampNeg (lab (((4 : Int32) * x1) + (1 : Int32)).toNatClampNeg)) (((4 : Int32) * x1) + (1 : Int32)).toNatClampNeg ((upd lab ((4 : Int32) * x1).toNatClampNeg (lab (((4 : Int32) * x1) + (1 : Int32)).toNatClampNeg)) (((4 : Int32) * x1) + (2 : Int32)).toNatClampNeg)) (((4 : Int32) * x1) + (3 : Int32)).toNatClampNeg)) (((4 : Int32) * x1) + (3 : Int32)).toNatClampNeg (lab ((4 : Int32) * x1).toNatClampNeg)) sg cc ci od sd go ta we oe fp ro sp qr qs) H := hP
    have hD : va_D A (wB a k (upd (upd (upd (upd lab ((4 : Int32) * x1).toNatClampNeg (lab (((4 : Int32) * x1) + (1 : Int32)).toNatClampNeg)) (((4 : Int32) * x1) + (1 : Int32)).toNatClampNeg ((upd lab ((4 : Int32) * x1).toNatClampNeg (lab (((4 : Int32) * x1) + (1 : Int32)).toNatClampNeg)) (((4 : Int32) * x1) + (2 : Int32)).toNatClampNeg)) (((4 : Int32) * x1) + (2 : Int32)).toNatClampNeg ((upd (upd lab ((4 : Int32) * x1).toNatClampNeg (lab (((4 : Int32) * x1) + (1 : Int32)).toNatClampNeg)) (((4 : Int32) * x1) + (1 : Int32)).toNatClampNeg ((upd lab ((4 : Int32) * x1).toNatClampNeg (lab (((4 : Int32) * x1) + (1 : Int32)).toNatClampNeg)) (((4 : Int32) * x1) + (2 : Int32)).toNatClampNeg)) (((4 : Int32) * x1) + (3 : Int32)).toNatClampNeg)) (((4 : Int32) * x1) + (3 : Int32)).toNatClampNeg (lab ((4 : Int32) * x1).toNatClampNeg)) sg cc ci od sd go ta we oe fp ro sp qr qs) := hD
    refine lv_aload_n hx hb d_B_change_76 rfl (lv_at hl 2 rfl) ?_
    refine va_get (D := D) (ci := 0) (v := .ref (a 2)) (C := R_B) (T := F_B) (N := 11) hx hb ht iC_B hown hK hP 0 rfl rfl 1 (by decide) (ht _ ix_53) (fun _ h9 => h9) rfl d_B_change_77 ?_
    refine lv_iload_n hx hb d_B_change_80 rfl (lv_at hl 3 rfl) ?_
    refine lv_aload_n hx hb d_B_change_81 rfl (lv_at hl 2 rfl) ?_
    refine va_get (D := D) (ci := 0) (v := .ref (a 2)) (C := R_B) (T := F_B) (N := 11) hx hb ht iC_B hown hK hP 0 rfl rfl 1 (by decide) (ht _ ix_53) (fun _ h9 => h9) rfl d_B_change_82 ?_
    refine lv_iload_n hx hb d_B_change_85 rfl (lv_at hl 3 rfl) ?_
    obtain ⟨g_11, h⟩ := gd_some h
    refine va_iald hx hb hK hP 2 1 rfl rfl (inb_in g_11) d_B_change_86 ?_
    refine lv_ineg hx hb d_B_change_87 ?_
    obtain ⟨g_12, h⟩ := gd_some h
    refine va_iast hx hb hK hP hD hS 2 1 rfl rfl (inb_in g_12) d_B_change_88 (fun H locs hP hD hS => ?_)
    have hP : va_P D classes (wB a k (upd (upd (upd (upd lab ((4 : Int32) * x1).toNatClampNeg (lab (((4 : Int32) * x1) + (1 : Int32)).toNatClampNeg)) (((4 : Int32) * x1) + (1 : Int32)).toNatClampNeg ((upd lab ((4 : Int32) * x1).toNatClampNeg (lab (((4 : Int32) * x1) + (1 : Int32)).toNatClampNeg)) (((4 : Int32) * x1) + (2 : Int32)).toNatClampNeg)) (((4 : Int32) * x1) + (2 : Int32)).toNatClampNeg ((upd (upd lab ((4 : Int32) * x1).toNatClampNeg (lab (((4 : Int32) * x1) + (1 : Int32)).toNatClampNeg)) (((4 : Int32) * x1) + (1 : Int32)).toNatClampNeg ((upd lab ((4 : Int32) * x1).toNatClampNeg (lab (((4 : Int32) * x1) + (1 : Int32)).toNatClampNeg)) (((4 : Int32) * x1) + (2 : Int32)).toNatClampNeg)) (((4 : Int32) * x1) + (3 : Int32)).toNatClampNeg)) (((4 : Int32) * x1) + (3 : Int32)).toNatClampNeg (lab ((4 : Int32) * x1).toNatClampNeg)) (upd sg x1.toNatClampNeg (-(sg x1.toNatClampNeg))) cc ci od sd go ta we oe fp ro sp qr qs) H := hP
    have hD : va_D A (wB a k (upd (upd (upd (upd lab ((4 : Int32) * x1).toNatClampNeg (lab (((4 : Int32) * x1) + (1 : Int32)).toNatClampNeg)) (((4 : Int32) * x1) + (1 : Int32)).toNatClampNeg ((upd lab ((4 : Int32) * x1).toNatClampNeg (lab (((4 : Int32) * x1) + (1 : Int32)).toNatClampNeg)) (((4 : Int32) * x1) + (2 : Int32)).toNatClampNeg)) (((4 : Int32) * x1) + (2 : Int32)).toNatClampNeg ((upd (upd lab ((4 : Int32) * x1).toNatClampNeg (lab (((4 : Int32) * x1) + (1 : Int32)).toNatClampNeg)) (((4 : Int32) * x1) + (1 : Int32)).toNatClampNeg ((upd lab ((4 : Int32) * x1).toNatClampNeg (lab (((4 : Int32) * x1) + (1 : Int32)).toNatClampNeg)) (((4 : Int32) * x1) + (2 : Int32)).toNatClampNeg)) (((4 : Int32) * x1) + (3 : Int32)).toNatClampNeg)) (((4 : Int32) * x1) + (3 : Int32)).toNatClampNeg (lab ((4 : Int32) * x1).toNatClampNeg)) (upd sg x1.toNatClampNeg (-(sg x1.toNatClampNeg))) cc ci od sd go ta we oe fp ro sp qr qs) := hD
    refine lv_aload_n hx hb d_B_change_89 rfl (lv_at hl 2 rfl) ?_
    obtain ⟨v_13, e_13, h⟩ := bd_some h
    refine go_Vv (As := []) (rest := []) (wc := (wB a k (upd (upd (upd (upd lab ((4 : Int32) * x1).toNatClampNeg (lab (((4 : Int32) * x1) + (1 : Int32)).toNatClampNeg)) (((4 : Int32) * x1) + (1 : Int32)).toNatClampNeg ((upd lab ((4 : Int32) * x1).toNatClampNeg (lab (((4 : Int32) * x1) + (1 : Int32)).toNatClampNeg)) (((4 : Int32) * x1) + (2 : Int32)).toNatClampNeg)) (((4 : Int32) * x1) + (2 : Int32)).toNatClampNeg ((upd (upd lab ((4 : Int32) * x1).toNatClampNeg (lab (((4 : Int32) * x1) + (1 : Int32)).toNatClampNeg)) (((4 : Int32) * x1) + (1 : Int32)).toNatClampNeg ((upd lab ((4 : Int32) * x1).toNatClampNeg (lab (((4 : Int32) * x1) + (1 : Int32)).toNatClampNeg)) (((4 : Int32) * x1) + (2 : Int32)).toNatClampNeg)) (((4 : Int32) * x1) + (3 : Int32)).toNatClampNeg)) (((4 : Int32) * x1) + (3 : Int32)).toNatClampNeg (lab ((4 : Int32) * x1).toNatClampNeg)) (upd sg x1.toNatClampNeg (-(sg x1.toNatClampNeg))) cc ci od sd go ta we oe fp ro sp qr qs)) (wr := []) (w1 := (wB a k (upd (upd (upd (upd lab ((4 : Int32) * x1).toNatClampNeg (lab (((4 : Int32) * x1) + (1 : Int32)).toNatClampNeg)) (((4 : Int32) * x1) + (1 : Int32)).toNatClampNeg ((upd lab ((4 : Int32) * x1).toNatClampNeg (lab (((4 : Int32) * x1) + (1 : Int32)).toNatClampNeg)) (((4 : Int32) * x1) + (2 : Int32)).toNatClampNeg)) (((4 : Int32) * x1) + (2 : Int32)).toNatClampNeg ((upd (upd lab ((4 : Int32) * x1).toNatClampNeg (lab (((4 : Int32) * x1) + (1 : Int32)).toNatClampNeg)) (((4 : Int32) * x1) + (1 : Int32)).toNatClampNeg ((upd lab ((4 : Int32) * x1).toNatClampNeg (lab (((4 : Int32) * x1) + (1 : Int32)).toNatClampNeg)) (((4 : Int32) * x1) + (2 : Int32)).toNatClampNeg)) (((4 : Int32) * x1) + (3 : Int32)).toNatClampNeg)) (((4 : Int32) * x1) + (3 : Int32)).toNatClampNeg (lab ((4 : Int32) * x1).toNatClampNeg)) (upd sg x1.toNatClampNeg (-(sg x1.toNatClampNeg))) cc ci v_13.1 sd go ta v_13.2 oe fp ro sp qr qs)) (w2 := (wB a k (upd (upd (upd (upd lab ((4 : Int32) * x1).toNatClampNeg (lab (((4 : Int32) * x1) + (1 : Int32)).toNatClampNeg)) (((4 : Int32) * x1) + (1 : Int32)).toNatClampNeg ((upd lab ((4 : Int32) * x1).toNatClampNeg (lab (((4 : Int32) * x1) + (1 : Int32)).toNatClampNeg)) (((4 : Int32) * x1) + (2 : Int32)).toNatClampNeg)) (((4 : Int32) * x1) + (2 : Int32)).toNatClampNeg ((upd (upd lab ((4 : Int32) * x1).toNatClampNeg (lab (((4 : Int32) * x1) + (1 : Int32)).toNatClampNeg)) (((4 : Int32) * x1) + (1 : Int32)).toNatClampNeg ((upd lab ((4 : Int32) * x1).toNatClampNeg (lab (((4 : Int32) * x1) + (1 : Int32)).toNatClampNeg)) (((4 : Int32) * x1) + (2 : Int32)).toNatClampNeg)) (((4 : Int32) * x1) + (3 : Int32)).toNatClampNeg)) (((4 : Int32) * x1) + (3 : Int32)).toNatClampNeg (lab ((4 : Int32) * x1).toNatClampNeg)) (upd sg x1.toNatClampNeg (-(sg x1.toNatClampNeg))) cc ci v_13.1 sd go ta v_13.2 oe fp ro sp qr qs)) (tc := [(k 1, .int), (k 2, .int), (k 3, .int), (k 4, .int), (k 5, .boolean), (k 6, .int), (k 8, .int), (k 9, .int), (k 11, .long)]) hx hb hml hown ht (c_B_orderAsGiven l D a k H.size (upd (upd (upd (upd lab ((4 : Int32) * x1).toNatClampNeg (lab (((4 : Int32) * x1) + (1 : Int32)).toNatClampNeg)) (((4 : Int32) * x1) + (1 : Int32)).toNatClampNeg ((upd lab ((4 : Int32) * x1).toNatClampNeg (lab (((4 : Int32) * x1) + (1 : Int32)).toNatClampNeg)) (((4 : Int32) * x1) + (2 : Int32)).toNatClampNeg)) (((4 : Int32) * x1) + (2 : Int32)).toNatClampNeg ((upd (upd lab ((4 : Int32) * x1).toNatClampNeg (lab (((4 : Int32) * x1) + (1 : Int32)).toNatClampNeg)) (((4 : Int32) * x1) + (1 : Int32)).toNatClampNeg ((upd lab ((4 : Int32) * x1).toNatClampNeg (lab (((4 : Int32) * x1) + (1 : Int32)).toNatClampNeg)) (((4 : Int32) * x1) + (2 : Int32)).toNatClampNeg)) (((4 : Int32) * x1) + (3 : Int32)).toNatClampNeg)) (((4 : Int32) * x1) + (3 : Int32)).toNatClampNeg (lab ((4 : Int32) * x1).toNatClampNeg)) (upd sg x1.toNatClampNeg (-(sg x1.toNatClampNeg))) cc ci od sd go ta we oe fp ro sp qr qs v_13 e_13) g_B_54 ⟨rfl, rfl⟩ (n := 0) (by decide +kernel) ⟨(Nat.le_of_ble_eq_true rfl), (Nat.le_of_ble_eq_true rfl)⟩ hP hD hK hS hA ⟨Nat.zero_le _, Nat.zero_le _⟩ [0, 1, 2, 3, 4, 5, 6, 7, 8, 9, 10, 11, 12] [] [0, 1, 2, 3, 4, 5, 6, 7, 8] [0, 1, 2, 3, 4, 5, 6, 7, 8, 9, 10, 11, 12] rfl rfl rfl rfl (by decide) (by decide) (by decide) rfl (by decide) 0 rfl rfl rfl rfl rfl hl.1 (Nat.le_of_ble_eq_true rfl) d_B_change_90 (fun H locs hP hD hS => ?_)
    refine lv_iconst (v := 1) hx hb d_B_change_93 (by decide) ?_
    cases h
    exact W.zret hx hb hr rfl (fun t ht hW => ⟨⟨_, (), rfl, rfl, by rw [ht]; exact hP, va_K.moved hW.alike hK, hD⟩, hS.F ht⟩) hS.2.2 d_B_change_94 hlk
  · have h := ite_T c_2 h
    refine lv_iconst (v := 0) hx hb d_B_change_8 (by decide) ?_
    cases h
    exact W.zret hx hb hr rfl (fun t ht hW => ⟨⟨_, (), rfl, rfl, by rw [ht]; exact hP, va_K.moved hW.alike hK, hD⟩, hS.F ht⟩) hS.2.2 d_B_change_9 hlk
set_option maxRecDepth 20000 in
theorem c_B_change (l : Launch) (D : va_G) (a : Nat → Nat) (k : Nat → ClassId) (sz : Nat) (x1 : Int32) (lab : Nat → Int32) (sg : Nat → Int32) (cc : Int32) (ci : Int32) (od : Nat → Int32) (sd : Nat → Int32) (go : Nat → Int32) (ta : Nat → Int32) (we : Int32) (oe : Nat → Int32) (fp : Nat → Int32) (ro : Nat → Int64) (sp : Nat → Int64) (qr : Nat) (qs : Nat) (r : Int32 × (Nat → Int32) × (Nat → Int32) × (Nat → Int32) × Int32) (h : F_B_change x1 lab sg cc od we = some r) : Met l y_B_change (Cond.code y_B_change b_B_change 4 (some .boolean) :: lw_g) (rm_B_change) (va_Pc [.ref (a 0), .int x1] (pcW D [(k 1, .int), (k 2, .int), (k 3, .int), (k 4, .int), (k 5, .boolean), (k 6, .int), (k 8, .int), (k 9, .int), (k 11, .long)] (wB a k lab sg cc ci od sd go ta we oe fp ro sp qr qs) sz)) (qc_B_change D (va_A (wB a k lab sg cc ci od sd go ta we oe fp ro sp qr qs) sz) a k cc ci sd go ta oe fp ro sp qr qs r) 0 0 (va_A (wB a k lab sg cc ci od sd go ta we oe fp ro sp qr qs) sz) := by
  refine Met.ofW (cc := b_B_change) (maxL := 4) (ret := (some .boolean)) (by decide) rfl ?_
  intro p e s m args below meth c s₁ B hml hv
  obtain ⟨rfl, hsz, hP, hK, hD0⟩ := hv
  have hts := atoms_spec (ws := Cond.code y_B_change b_B_change 4 (some .boolean) :: lw_g) B.pre
  subst hsz
  have hD := hD0.self (sz := s.heap.size)
  have hl := lv_entry ([.ref (a 0), .int x1]) (n := 4) (Nat.le_of_ble_eq_true rfl)
  rw [lg_entry_eq]
  generalize (lg_sl ([.ref (a 0), .int x1]) ++ List.replicate (4 - (lg_sl ([.ref (a 0), .int x1])).length) Slot.unset).toArray = ls at hl ⊢
  exact k_B_change_0 ⟨B.exec, B.bytes, B.returns, hml, findClass_of_methodNamed B.named, fun w hw => hts w (List.mem_cons_of_mem _ hw), B.notSynchronized, fun q h => Or.inr h, hK⟩ _ _ _ _ _ _ _ h _ _ _ hP hD va_S.rf hl

def rm_B_move : Room := { frames := 2, cells := 0, slots := 0, locals := 47 }
def qc_B_move (D : va_G) (A : Nat → Prop) (a : Nat → Nat) (k : Nat → ClassId) (cc : Int32) (ci : Int32) (sd : Nat → Int32) (go : Nat → Int32) (ta : Nat → Int32) (oe : Nat → Int32) (fp : Nat → Int32) (ro : Nat → Int64) (sp : Nat → Int64) (qr : Nat) (qs : Nat) (r : Int32 × (Nat → Int32) × (Nat → Int32) × (Nat → Int32) × Int32) : Array Value → State → Outcome → State → Prop := va_Qi (fun (r1 : Int32) (_ : Unit) => r1 = r.1) (poW D [(k 1, .int), (k 2, .int), (k 3, .int), (k 4, .int), (k 5, .boolean), (k 6, .int), (k 8, .int), (k 9, .int), (k 11, .long)] (wB a k r.2.1 r.2.2.1 cc ci r.2.2.2.1 sd go ta r.2.2.2.2 oe fp ro sp qr qs) A) A
def J_B_move_0 (x1 : Int32) (x2 : Int32) (lab : Nat → Int32) (sg : Nat → Int32) (cc : Int32) (od : Nat → Int32) (we : Int32) : Option (Int32 × (Nat → Int32) × (Nat → Int32) × (Nat → Int32) × Int32) :=
  (Option.bind (F_B_isCrossing x1 cc) (fun v_1 => (if v_1 = 0 then some ((0 : Int32), lab, sg, od, we) else (Option.bind (F_B_isCrossing x2 cc) (fun v_3 => (if v_3 = 0 then some ((0 : Int32), lab, sg, od, we) else (Option.bind (F_B_carry x1 x2 lab sg) (fun v_5 => (Option.bind (F_B_orderAsGiven od we) (fun v_6 => some ((1 : Int32), v_5.1, v_5.2, v_6.1, v_6.2)))))))))))
def F_B_move (x1 : Int32) (x2 : Int32) (lab : Nat → Int32) (sg : Nat → Int32) (cc : Int32) (od : Nat → Int32) (we : Int32) : Option (Int32 × (Nat → Int32) × (Nat → Int32) × (Nat → Int32) × Int32) := J_B_move_0 x1 x2 lab sg cc od we
def H_B_move_0 (p : Program) (l : Launch) (e : Env) (s : State) (m : MethodId) (args : Array Value) (below : List Frame) (meth : Method) (c : Code) (D : va_G) (A : Nat → Prop) (a : Nat → Nat) (k : Nat → ClassId) (ci : Int32) (sd : Nat → Int32) (go : Nat → Int32) (ta : Nat → Int32) (oe : Nat → Int32) (fp : Nat → Int32) (ro : Nat → Int64) (sp : Nat → Int64) (qr : Nat) (qs : Nat) (f : Int32 → Int32 → (Nat → Int32) → (Nat → Int32) → Int32 → (Nat → Int32) → Int32 → Option (Int32 × (Nat → Int32) × (Nat → Int32) × (Nat → Int32) × Int32)) : Prop := ∀ (x1 : Int32) (x2 : Int32) (lab : Nat → Int32) (sg : Nat → Int32) (cc : Int32) (od : Nat → Int32) (we : Int32) (r : Int32 × (Nat → Int32) × (Nat → Int32) × (Nat → Int32) × Int32), f x1 x2 lab sg cc od we = some r → ∀ (H : Heap) (locs : List Loc) (ls : Array Slot), va_P D classes (wB a k lab sg cc ci od sd go ta we oe fp ro sp qr qs) H → va_D A (wB a k lab sg cc ci od sd go ta we oe fp ro sp qr qs) → va_S A s.heap H locs → lv_has ls 3 [(0, .ref (a 0)), (1, .int x1), (2, .int x2)] → W p l e (rm_B_move) s m args below meth c H locs 0 0 (MQ below (qc_B_move D A a k cc ci sd go ta oe fp ro sp qr qs r) args s 0 0 A) (F0 m 0 ls [])
set_option maxHeartbeats 4000000 in
set_option maxRecDepth 100000 in
theorem k_B_move_0 {p : Program} {l : Launch} {e : Env} {s : State} {m : MethodId} {args : Array Value} {below : List Frame} {meth : Method} {c : Code} {D : va_G} {A : Nat → Prop} {a : Nat → Nat} {k : Nat → ClassId} {ci : Int32} {sd : Nat → Int32} {go : Nat → Int32} {ta : Nat → Int32} {oe : Nat → Int32} {fp : Nat → Int32} {ro : Nat → Int64} {sp : Nat → Int64} {qr : Nat} {qs : Nat} (C : cx D [(k 1, .int), (k 2, .int), (k 3, .int), (k 4, .int), (k 5, .boolean), (k 6, .int), (k 8, .int), (k 9, .int), (k 11, .long)] R_B b_B_move 3 (some .boolean) A p s m args meth c) : H_B_move_0 p l e s m args below meth c D A a k ci sd go ta oe fp ro sp qr qs (J_B_move_0) := by
  obtain ⟨hx, hb, hr, hml, hown, ht, hlk, hA, hK⟩ := id C
  intro x1 x2 lab sg cc od we r h H locs ls hP hD hS hl
  unfold J_B_move_0 at h
  refine lv_aload_n hx hb d_B_move_0 rfl (lv_at hl 0 rfl) ?_
  refine lv_iload_n hx hb d_B_move_1 rfl (lv_at hl 1 rfl) ?_
  obtain ⟨v_1, e_1, h⟩ := bd_some h
  refine go_Vi (r := v_1) (As := [.int x1]) (rest := []) (wc := (wB a k lab sg cc ci od sd go ta we oe fp ro sp qr qs)) (wr := []) (w1 := (wB a k lab sg cc ci od sd go ta we oe fp ro sp qr qs)) (w2 := (wB a k lab sg cc ci od sd go ta we oe fp ro sp qr qs)) (tc := [(k 1, .int), (k 2, .int), (k 3, .int), (k 4, .int), (k 5, .boolean), (k 6, .int), (k 8, .int), (k 9, .int), (k 11, .long)]) hx hb hml hown ht (c_B_isCrossing l D a k H.size x1 lab sg cc ci od sd go ta we oe fp ro sp qr qs v_1 e_1) g_B_64 ⟨rfl, rfl⟩ (n := 1) (by decide +kernel) ⟨(Nat.le_of_ble_eq_true rfl), (Nat.le_of_ble_eq_true rfl)⟩ hP hD hK hS hA ⟨Nat.zero_le _, Nat.zero_le _⟩ [0, 1, 2, 3, 4, 5, 6, 7, 8, 9, 10, 11, 12] [] [0, 1, 2, 3, 4, 5, 6, 7, 8] [0, 1, 2, 3, 4, 5, 6, 7, 8, 9, 10, 11, 12] rfl rfl rfl rfl (by decide) (by decide) (by decide) rfl (by decide) 0 rfl rfl rfl rfl rfl hl.1 (Nat.le_of_ble_eq_true rfl) d_B_move_2 (fun H locs hP hD hS => ?_)
  refine lv_if_eq (tgt := 16) hx hb d_B_move_5 (by decide) (fun c_2 => ?_) (fun c_2 => ?_)
  · have h := ite_T c_2 h
    refine lv_iconst (v := 0) hx hb d_B_move_16 (by decide) ?_
    cases h
    exact W.zret hx hb hr rfl (fun t ht hW => ⟨⟨_, (), rfl, rfl, by rw [ht]; exact hP, va_K.moved hW.alike hK, hD⟩, hS.F ht⟩) hS.2.2 d_B_move_17 hlk
  · have h := ite_F c_2 h
    refine lv_aload_n hx hb d_B_move_8 rfl (lv_at hl 0 rfl) ?_
    refine lv_iload_n hx hb d_B_move_9 rfl (lv_at hl 2 rfl) ?_
    obtain ⟨v_3, e_3, h⟩ := bd_some h
    refine go_Vi (r := v_3) (As := [.int x2]) (rest := []) (wc := (wB a k lab sg cc ci od sd go ta we oe fp ro sp qr qs)) (wr := []) (w1 := (wB a k lab sg cc ci od sd go ta we oe fp ro sp qr qs)) (w2 := (wB a k lab sg cc ci od sd go ta we oe fp ro sp qr qs)) (tc := [(k 1, .int), (k 2, .int), (k 3, .int), (k 4, .int), (k 5, .boolean), (k 6, .int), (k 8, .int), (k 9, .int), (k 11, .long)]) hx hb hml hown ht (c_B_isCrossing l D a k H.size x2 lab sg cc ci od sd go ta we oe fp ro sp qr qs v_3 e_3) g_B_64 ⟨rfl, rfl⟩ (n := 1) (by decide +kernel) ⟨(Nat.le_of_ble_eq_true rfl), (Nat.le_of_ble_eq_true rfl)⟩ hP hD hK hS hA ⟨Nat.zero_le _, Nat.zero_le _⟩ [0, 1, 2, 3, 4, 5, 6, 7, 8, 9, 10, 11, 12] [] [0, 1, 2, 3, 4, 5, 6, 7, 8] [0, 1, 2, 3, 4, 5, 6, 7, 8, 9, 10, 11, 12] rfl rfl rfl rfl (by decide) (by decide) (by decide) rfl (by decide) 0 rfl rfl rfl rfl rfl hl.1 (Nat.le_of_ble_eq_true rfl) d_B_move_10 (fun H locs hP hD hS => ?_)
    refine lv_if_ne (tgt := 18) hx hb d_B_move_13 (by decide) (fun c_4 => ?_) (fun c_4 => ?_)
    · have h := ite_F c_4 h
      refine lv_aload_n hx hb d_B_move_18 rfl (lv_at hl 0 rfl) ?_
      refine lv_iload_n hx hb d_B_move_19 rfl (lv_at hl 1 rfl) ?_
      refine lv_iload_n hx hb d_B_move_20 rfl (lv_at hl 2 rfl) ?_
      obtain ⟨v_5, e_5, h⟩ := bd_some h
      refine go_Vv (As := [.int x1, .int x2]) (rest := []) (wc := (wB a k lab sg cc ci od sd go ta we oe fp ro sp qr qs)) (wr := []) (w1 := (wB a k v_5.1 v_5.2 cc ci od sd go ta we oe fp ro sp qr qs)) (w2 := (wB a k v_5.1 v_5.2 cc ci od sd go ta we oe fp ro sp qr qs)) (tc := [(k 1, .int), (k 2, .int), (k 3, .int), (k 4, .int), (k 5, .boolean), (k 6, .int), (k 8, .int), (k 9, .int), (k 11, .long)]) hx hb hml hown ht (c_B_carry l D a k H.size x1 x2 lab sg cc ci od sd go ta we oe fp ro sp qr qs v_5 e_5) g_B_128 ⟨rfl, rfl⟩ (n := 2) (by decide +kernel) ⟨(Nat.le_of_ble_eq_true rfl), (Nat.le_of_ble_eq_true rfl)⟩ hP hD hK hS hA ⟨Nat.zero_le _, Nat.zero_le _⟩ [0, 1, 2, 3, 4, 5, 6, 7, 8, 9, 10, 11, 12] [] [0, 1, 2, 3, 4, 5, 6, 7, 8] [0, 1, 2, 3, 4, 5, 6, 7, 8, 9, 10, 11, 12] rfl rfl rfl rfl (by decide) (by decide) (by decide) rfl (by decide) 0 rfl rfl rfl rfl rfl hl.1 (Nat.le_of_ble_eq_true rfl) d_B_move_21 (fun H locs hP hD hS => ?_)
      refine lv_aload_n hx hb d_B_move_24 rfl (lv_at hl 0 rfl) ?_
      obtain ⟨v_6, e_6, h⟩ := bd_some h
      refine go_Vv (As := []) (rest := []) (wc := (wB a k v_5.1 v_5.2 cc ci od sd go ta we oe fp ro sp qr qs)) (wr := []) (w1 := (wB a k v_5.1 v_5.2 cc ci v_6.1 sd go ta v_6.2 oe fp ro sp qr qs)) (w2 := (wB a k v_5.1 v_5.2 cc ci v_6.1 sd go ta v_6.2 oe fp ro sp qr qs)) (tc := [(k 1, .int), (k 2, .int), (k 3, .int), (k 4, .int), (k 5, .boolean), (k 6, .int), (k 8, .int), (k 9, .int), (k 11, .long)]) hx hb hml hown ht (c_B_orderAsGiven l D a k H.size v_5.1 v_5.2 cc ci od sd go ta we oe fp ro sp qr qs v_6 e_6) g_B_54 ⟨rfl, rfl⟩ (n := 0) (by decide +kernel) ⟨(Nat.le_of_ble_eq_true rfl), (Nat.le_of_ble_eq_true rfl)⟩ hP hD hK hS hA ⟨Nat.zero_le _, Nat.zero_le _⟩ [0, 1, 2, 3, 4, 5, 6, 7, 8, 9, 10, 11, 12] [] [0, 1, 2, 3, 4, 5, 6, 7, 8] [0, 1, 2, 3, 4, 5, 6, 7, 8, 9, 10, 11, 12] rfl rfl rfl rfl (by decide) (by decide) (by decide) rfl (by decide) 0 rfl rfl rfl rfl rfl hl.1 (Nat.le_of_ble_eq_true rfl) d_B_move_25 (fun H locs hP hD hS => ?_)
      refine lv_iconst (v := 1) hx hb d_B_move_28 (by decide) ?_
      cases h
      exact W.zret hx hb hr rfl (fun t ht hW => ⟨⟨_, (), rfl, rfl, by rw [ht]; exact hP, va_K.moved hW.alike hK, hD⟩, hS.F ht⟩) hS.2.2 d_B_move_29 hlk
    · have h := ite_T c_4 h
      refine lv_iconst (v := 0) hx hb d_B_move_16 (by decide) ?_
      cases h
      exact W.zret hx hb hr rfl (fun t ht hW => ⟨⟨_, (), rfl, rfl, by rw [ht]; exact hP, va_K.moved hW.alike hK, hD⟩, hS.F ht⟩) hS.2.2 d_B_move_17 hlk
set_option maxRecDepth 20000 in
theorem c_B_move (l : Launch) (D : va_G) (a : Nat → Nat) (k : Nat → ClassId) (sz : Nat) (x1 : Int32) (x2 : Int32) (lab : Nat → Int32) (sg : Nat → Int32) (cc : Int32) (ci : Int32) (od : Nat → Int32) (sd : Nat → Int32) (go : Nat → Int32) (ta : Nat → Int32) (we : Int32) (oe : Nat → Int32) (fp : Nat → Int32) (ro : Nat → Int64) (sp : Nat → Int64) (qr : Nat) (qs : Nat) (r : Int32 × (Nat → Int32) × (Nat → Int32) × (Nat → Int32) × Int32) (h : F_B_move x1 x2 lab sg cc od we = some r) : Met l y_B_move (Cond.code y_B_move b_B_move 3 (some .boolean) :: lw_g) (rm_B_move) (va_Pc [.ref (a 0), .int x1, .int x2] (pcW D [(k 1, .int), (k 2, .int), (k 3, .int), (k 4, .int), (k 5, .boolean), (k 6, .int), (k 8, .int), (k 9, .int), (k 11, .long)] (wB a k lab sg cc ci od sd go ta we oe fp ro sp qr qs) sz)) (qc_B_move D (va_A (wB a k lab sg cc ci od sd go ta we oe fp ro sp qr qs) sz) a k cc ci sd go ta oe fp ro sp qr qs r) 0 0 (va_A (wB a k lab sg cc ci od sd go ta we oe fp ro sp qr qs) sz) := by
  refine Met.ofW (cc := b_B_move) (maxL := 3) (ret := (some .boolean)) (by decide) rfl ?_
  intro p e s m args below meth c s₁ B hml hv
  obtain ⟨rfl, hsz, hP, hK, hD0⟩ := hv
  have hts := atoms_spec (ws := Cond.code y_B_move b_B_move 3 (some .boolean) :: lw_g) B.pre
  subst hsz
  have hD := hD0.self (sz := s.heap.size)
  have hl := lv_entry ([.ref (a 0), .int x1, .int x2]) (n := 3) (Nat.le_of_ble_eq_true rfl)
  rw [lg_entry_eq]
  generalize (lg_sl ([.ref (a 0), .int x1, .int x2]) ++ List.replicate (3 - (lg_sl ([.ref (a 0), .int x1, .int x2])).length) Slot.unset).toArray = ls at hl ⊢
  exact k_B_move_0 ⟨B.exec, B.bytes, B.returns, hml, findClass_of_methodNamed B.named, fun w hw => hts w (List.mem_cons_of_mem _ hw), B.notSynchronized, fun q h => Or.inr h, hK⟩ _ _ _ _ _ _ _ _ h _ _ _ hP hD va_S.rf hl
end
