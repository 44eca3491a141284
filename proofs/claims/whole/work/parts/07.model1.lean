def rm_M_joined : Room := { frames := 0, cells := 0, slots := 0, locals := 0 }
def qc_M_joined (D : va_G) (A : Nat → Prop) (a : Nat → Nat) (k : Nat → ClassId) (r : Int32) : Array Value → State → Outcome → State → Prop := va_Qi (fun (r1 : Int32) (_ : Unit) => r1 = r) (poW D [] (wN a k ) A) A
def J_M_joined_0 (x0 : Int32) (x1 : Int32) : Option (Int32) :=
  (if x1 = 0 then (if ((x0 - x0 / (4 : Int32) * (4 : Int32)) - (x0 - x0 / (4 : Int32) * (4 : Int32)) / (2 : Int32) * (2 : Int32)) = 0 then some (((x0 - (x0 - x0 / (4 : Int32) * (4 : Int32))) + ((x0 - x0 / (4 : Int32) * (4 : Int32)) + (1 : Int32)))) else some (((x0 - (x0 - x0 / (4 : Int32) * (4 : Int32))) + ((x0 - x0 / (4 : Int32) * (4 : Int32)) - (1 : Int32))))) else some (((x0 - (x0 - x0 / (4 : Int32) * (4 : Int32))) + ((3 : Int32) - (x0 - x0 / (4 : Int32) * (4 : Int32))))))
def F_M_joined (x0 : Int32) (x1 : Int32) : Option (Int32) := J_M_joined_0 x0 x1
def H_M_joined_0 (p : Program) (l : Launch) (e : Env) (s : State) (m : MethodId) (args : Array Value) (below : List Frame) (meth : Method) (c : Code) (D : va_G) (A : Nat → Prop) (a : Nat → Nat) (k : Nat → ClassId) (f : Int32 → Int32 → Option (Int32)) : Prop := ∀ (x0 : Int32) (x1 : Int32) (r : Int32), f x0 x1 = some r → ∀ (H : Heap) (locs : List Loc) (ls : Array Slot), va_P D classes (wN a k ) H → va_D A (wN a k ) → va_S A s.heap H locs → lv_has ls 3 [(0, .int x0), (1, .int x1)] → W p l e (rm_M_joined) s m args below meth c H locs 0 0 (MQ below (qc_M_joined D A a k r) args s 0 0 A) (F0 m 0 ls [])
set_option maxHeartbeats 4000000 in
set_option maxRecDepth 100000 in
theorem k_M_joined_0 {p : Program} {l : Launch} {e : Env} {s : State} {m : MethodId} {args : Array Value} {below : List Frame} {meth : Method} {c : Code} {D : va_G} {A : Nat → Prop} {a : Nat → Nat} {k : Nat → ClassId} (C : cx D [] R_M b_M_joined 3 (some .int) A p s m args meth c) : H_M_joined_0 p l e s m args below meth c D A a k (J_M_joined_0) := by
  obtain ⟨hx, hb, hr, hml, hown, ht, hlk, hA, hK⟩ := id C
  intro x0 x1 r h H locs ls hP hD hS hl
  unfold J_M_joined_0 at h
  refine lv_iload_n hx hb d_M_joined_0 rfl (lv_at hl 0 rfl) ?_
  refine lv_iconst (v := 4) hx hb d_M_joined_1 (by decide) ?_
  refine lv_irem hx hb d_M_joined_2 (by decide) ?_
  refine lv_istore_n (lv' := [(2, .int (x0 - x0 / (4 : Int32) * (4 : Int32))), (0, .int x0), (1, .int x1)]) hx hb d_M_joined_3 rfl hl (by decide) rfl (fun ls hl => ?_)
  refine lv_iload_n hx hb d_M_joined_4 rfl (lv_at hl 1 rfl) ?_
  refine lv_iload_n hx hb d_M_joined_5 rfl (lv_at hl 0 rfl) ?_
  refine lv_isub hx hb d_M_joined_6 ?_
  refine lv_iload_n hx hb d_M_joined_7 rfl (lv_at hl 2 rfl) ?_
  refine lv_if_eq (tgt := 17) hx hb d_M_joined_8 (by decide) (fun c_1 => ?_) (fun c_1 => ?_)
  · have h := ite_T c_1 h
    refine lv_iload_n hx hb d_M_joined_17 rfl (lv_at hl 0 rfl) ?_
    refine lv_iconst (v := 2) hx hb d_M_joined_18 (by decide) ?_
    refine lv_irem hx hb d_M_joined_19 (by decide) ?_
    refine lv_if_ne (tgt := 29) hx hb d_M_joined_20 (by decide) (fun c_2 => ?_) (fun c_2 => ?_)
    · have h := ite_F c_2 h
      refine lv_iload_n hx hb d_M_joined_29 rfl (lv_at hl 0 rfl) ?_
      refine lv_iconst (v := 1) hx hb d_M_joined_30 (by decide) ?_
      refine lv_isub hx hb d_M_joined_31 ?_
      refine lv_iadd hx hb d_M_joined_32 ?_
      cases h
      exact W.iret hx hb hr (fun t ht hW => ⟨⟨_, (), rfl, rfl, by rw [ht]; exact hP, va_K.moved hW.alike hK, hD⟩, hS.F ht⟩) hS.2.2 d_M_joined_33 hlk
    · have h := ite_T c_2 h
      refine lv_iload_n hx hb d_M_joined_23 rfl (lv_at hl 0 rfl) ?_
      refine lv_iconst (v := 1) hx hb d_M_joined_24 (by decide) ?_
      refine lv_iadd hx hb d_M_joined_25 ?_
      refine lv_goto (tgt := 32) hx hb d_M_joined_26 (by decide) ?_
      refine lv_iadd hx hb d_M_joined_32 ?_
      cases h
      exact W.iret hx hb hr (fun t ht hW => ⟨⟨_, (), rfl, rfl, by rw [ht]; exact hP, va_K.moved hW.alike hK, hD⟩, hS.F ht⟩) hS.2.2 d_M_joined_33 hlk
  · have h := ite_F c_1 h
    refine lv_iconst (v := 3) hx hb d_M_joined_11 (by decide) ?_
    refine lv_iload_n hx hb d_M_joined_12 rfl (lv_at hl 0 rfl) ?_
    refine lv_isub hx hb d_M_joined_13 ?_
    refine lv_goto (tgt := 32) hx hb d_M_joined_14 (by decide) ?_
    refine lv_iadd hx hb d_M_joined_32 ?_
    cases h
    exact W.iret hx hb hr (fun t ht hW => ⟨⟨_, (), rfl, rfl, by rw [ht]; exact hP, va_K.moved hW.alike hK, hD⟩, hS.F ht⟩) hS.2.2 d_M_joined_33 hlk
set_option maxRecDepth 20000 in
theorem c_M_joined (l : Launch) (D : va_G) (a : Nat → Nat) (k : Nat → ClassId) (sz : Nat) (x0 : Int32) (x1 : Int32) (r : Int32) (h : F_M_joined x0 x1 = some r) : Met l y_M_joined (Cond.code y_M_joined b_M_joined 3 (some .int) :: lw_g) (rm_M_joined) (va_Pc [.int x0, .int x1] (pcW D [] (wN a k ) sz)) (qc_M_joined D (va_A (wN a k ) sz) a k r) 0 0 (va_A (wN a k ) sz) := by
  refine Met.ofW (cc := b_M_joined) (maxL := 3) (ret := (some .int)) (by decide) rfl ?_
  intro p e s m args below meth c s₁ B hml hv
  obtain ⟨rfl, hsz, hP, hK, hD0⟩ := hv
  have hts := atoms_spec (ws := Cond.code y_M_joined b_M_joined 3 (some .int) :: lw_g) B.pre
  subst hsz
  have hD := hD0.self (sz := s.heap.size)
  have hl := lv_entry ([.int x0, .int x1]) (n := 3) (Nat.le_of_ble_eq_true rfl)
  rw [lg_entry_eq]
  generalize (lg_sl ([.int x0, .int x1]) ++ List.replicate (3 - (lg_sl ([.int x0, .int x1])).length) Slot.unset).toArray = ls at hl ⊢
  exact k_M_joined_0 ⟨B.exec, B.bytes, B.returns, hml, findClass_of_methodNamed B.named, fun w hw => hts w (List.mem_cons_of_mem _ hw), B.notSynchronized, fun q h => Or.inr h, hK⟩ _ _ _ h _ _ _ hP hD va_S.rf hl

def rm_M_bits : Room := { frames := 0, cells := 0, slots := 0, locals := 0 }
def qc_M_bits (D : va_G) (A : Nat → Prop) (a : Nat → Nat) (k : Nat → ClassId) (r : Int32) : Array Value → State → Outcome → State → Prop := va_Qi (fun (r1 : Int32) (_ : Unit) => r1 = r) (poW D [] (wN a k ) A) A
def J_M_bits_4 (rec4 : Int32 → Int32 → Int32 → Option (Int32)) (x0 : Int32) (x1 : Int32) (x2 : Int32) : Option (Int32) :=
  (if (10 : Int32) ≤ x2 then some (x1) else rec4 x0 (x1 + ((x0 >>> (x2 &&& 31)) &&& (1 : Int32))) (x2 + 1))
def L_M_bits_4 : Nat → Int32 → Int32 → Int32 → Option (Int32)
  | 0 => fun _ _ _ => none
  | n + 1 => J_M_bits_4 (L_M_bits_4 n)
def J_M_bits_0 (x0 : Int32) : Option (Int32) :=
  L_M_bits_4 fu x0 (0 : Int32) (0 : Int32)
def F_M_bits (x0 : Int32) : Option (Int32) := J_M_bits_0 x0
def H_M_bits_4 (p : Program) (l : Launch) (e : Env) (s : State) (m : MethodId) (args : Array Value) (below : List Frame) (meth : Method) (c : Code) (D : va_G) (A : Nat → Prop) (a : Nat → Nat) (k : Nat → ClassId) (f : Int32 → Int32 → Int32 → Option (Int32)) : Prop := ∀ (x0 : Int32) (x1 : Int32) (x2 : Int32) (r : Int32), f x0 x1 x2 = some r → ∀ (H : Heap) (locs : List Loc) (ls : Array Slot), va_P D classes (wN a k ) H → va_D A (wN a k ) → va_S A s.heap H locs → lv_has ls 3 [(0, .int x0), (1, .int x1), (2, .int x2)] → W p l e (rm_M_bits) s m args below meth c H locs 0 0 (MQ below (qc_M_bits D A a k r) args s 0 0 A) (F0 m 4 ls [])
def H_M_bits_0 (p : Program) (l : Launch) (e : Env) (s : State) (m : MethodId) (args : Array Value) (below : List Frame) (meth : Method) (c : Code) (D : va_G) (A : Nat → Prop) (a : Nat → Nat) (k : Nat → ClassId) (f : Int32 → Option (Int32)) : Prop := ∀ (x0 : Int32) (r : Int32), f x0 = some r → ∀ (H : Heap) (locs : List Loc) (ls : Array Slot), va_P D classes (wN a k ) H → va_D A (wN a k ) → va_S A s.heap H locs → lv_has ls 3 [(0, .int x0)] → W p l e (rm_M_bits) s m args below meth c H locs 0 0 (MQ below (qc_M_bits D A a k r) args s 0 0 A) (F0 m 0 ls [])
set_option maxHeartbeats 4000000 in
set_option maxRecDepth 100000 in
theorem k_M_bits_4 {p : Program} {l : Launch} {e : Env} {s : State} {m : MethodId} {args : Array Value} {below : List Frame} {meth : Method} {c : Code} {D : va_G} {A : Nat → Prop} {a : Nat → Nat} {k : Nat → ClassId} {rec4 : Int32 → Int32 → Int32 → Option (Int32)} (C : cx D [] R_M b_M_bits 3 (some .int) A p s m args meth c) (hrec4 : H_M_bits_4 p l e s m args below meth c D A a k rec4) : H_M_bits_4 p l e s m args below meth c D A a k (J_M_bits_4 rec4) := by
  obtain ⟨hx, hb, hr, hml, hown, ht, hlk, hA, hK⟩ := id C
  intro x0 x1 x2 r h H locs ls hP hD hS hl
  unfold J_M_bits_4 at h
  refine lv_iload_n hx hb d_M_bits_4 rfl (lv_at hl 2 rfl) ?_
  refine lv_bipush (v := 10) hx hb d_M_bits_5 (by decide) ?_
  refine lv_icmp_ge (tgt := 24) hx hb d_M_bits_7 (by decide) (fun c_1 => ?_) (fun c_1 => ?_)
  · have h := ite_T c_1 h
    refine lv_iload_n hx hb d_M_bits_24 rfl (lv_at hl 1 rfl) ?_
    cases h
    exact W.iret hx hb hr (fun t ht hW => ⟨⟨_, (), rfl, rfl, by rw [ht]; exact hP, va_K.moved hW.alike hK, hD⟩, hS.F ht⟩) hS.2.2 d_M_bits_25 hlk
  · have h := ite_F c_1 h
    refine lv_iload_n hx hb d_M_bits_10 rfl (lv_at hl 1 rfl) ?_
    refine lv_iload_n hx hb d_M_bits_11 rfl (lv_at hl 0 rfl) ?_
    refine lv_iload_n hx hb d_M_bits_12 rfl (lv_at hl 2 rfl) ?_
    refine lv_ishr hx hb d_M_bits_13 ?_
    refine lv_iconst (v := 1) hx hb d_M_bits_14 (by decide) ?_
    refine lv_iand hx hb d_M_bits_15 ?_
    refine lv_iadd hx hb d_M_bits_16 ?_
    refine lv_istore_n (lv' := [(1, .int (x1 + ((x0 >>> (x2 &&& 31)) &&& (1 : Int32)))), (0, .int x0), (2, .int x2)]) hx hb d_M_bits_17 rfl hl (by decide) rfl (fun ls hl => ?_)
    refine lv_iinc (v := x2 + 1) (lv' := [(2, .int (x2 + 1)), (1, .int (x1 + ((x0 >>> (x2 &&& 31)) &&& (1 : Int32)))), (0, .int x0)]) hx hb d_M_bits_18 hl (k := 2) rfl rfl (by decide) rfl (fun ls hl => ?_)
    refine lv_goto (tgt := 4) hx hb d_M_bits_21 (by decide) ?_
    exact hrec4 _ _ _ _ h _ _ _ hP hD hS (lv_sub hl [2, 1, 0] rfl)
theorem k_M_bits_4_L {p : Program} {l : Launch} {e : Env} {s : State} {m : MethodId} {args : Array Value} {below : List Frame} {meth : Method} {c : Code} {D : va_G} {A : Nat → Prop} {a : Nat → Nat} {k : Nat → ClassId} (C : cx D [] R_M b_M_bits 3 (some .int) A p s m args meth c) : ∀ n : Nat, H_M_bits_4 p l e s m args below meth c D A a k (L_M_bits_4 n)
  | 0 => fun _ _ _ _ h => nomatch h
  | n + 1 => k_M_bits_4 C (k_M_bits_4_L C n)
set_option maxHeartbeats 4000000 in
set_option maxRecDepth 100000 in
theorem k_M_bits_0 {p : Program} {l : Launch} {e : Env} {s : State} {m : MethodId} {args : Array Value} {below : List Frame} {meth : Method} {c : Code} {D : va_G} {A : Nat → Prop} {a : Nat → Nat} {k : Nat → ClassId} (C : cx D [] R_M b_M_bits 3 (some .int) A p s m args meth c) : H_M_bits_0 p l e s m args below meth c D A a k (J_M_bits_0) := by
  obtain ⟨hx, hb, hr, hml, hown, ht, hlk, hA, hK⟩ := id C
  intro x0 r h H locs ls hP hD hS hl
  unfold J_M_bits_0 at h
  refine lv_iconst (v := 0) hx hb d_M_bits_0 (by decide) ?_
  refine lv_istore_n (lv' := [(1, .int (0 : Int32)), (0, .int x0)]) hx hb d_M_bits_1 rfl hl (by decide) rfl (fun ls hl => ?_)
  refine lv_iconst (v := 0) hx hb d_M_bits_2 (by decide) ?_
  refine lv_istore_n (lv' := [(2, .int (0 : Int32)), (1, .int (0 : Int32)), (0, .int x0)]) hx hb d_M_bits_3 rfl hl (by decide) rfl (fun ls hl => ?_)
  exact (k_M_bits_4_L C fu) _ _ _ _ h _ _ _ hP hD hS (lv_sub hl [2, 1, 0] rfl)
set_option maxRecDepth 20000 in
theorem c_M_bits (l : Launch) (D : va_G) (a : Nat → Nat) (k : Nat → ClassId) (sz : Nat) (x0 : Int32) (r : Int32) (h : F_M_bits x0 = some r) : Met l y_M_bits (Cond.code y_M_bits b_M_bits 3 (some .int) :: lw_g) (rm_M_bits) (va_Pc [.int x0] (pcW D [] (wN a k ) sz)) (qc_M_bits D (va_A (wN a k ) sz) a k r) 0 0 (va_A (wN a k ) sz) := by
  refine Met.ofW (cc := b_M_bits) (maxL := 3) (ret := (some .int)) (by decide) rfl ?_
  intro p e s m args below meth c s₁ B hml hv
  obtain ⟨rfl, hsz, hP, hK, hD0⟩ := hv
  have hts := atoms_spec (ws := Cond.code y_M_bits b_M_bits 3 (some .int) :: lw_g) B.pre
  subst hsz
  have hD := hD0.self (sz := s.heap.size)
  have hl := lv_entry ([.int x0]) (n := 3) (Nat.le_of_ble_eq_true rfl)
  rw [lg_entry_eq]
  generalize (lg_sl ([.int x0]) ++ List.replicate (3 - (lg_sl ([.int x0])).length) Slot.unset).toArray = ls at hl ⊢
  exact k_M_bits_0 ⟨B.exec, B.bytes, B.returns, hml, findClass_of_methodNamed B.named, fun w hw => hts w (List.mem_cons_of_mem _ hw), B.notSynchronized, fun q h => Or.inr h, hK⟩ _ _ h _ _ _ hP hD va_S.rf hl

def rm_M_standing : Room := { frames := 0, cells := 0, slots := 0, locals := 0 }
def qc_M_standing (D : va_G) (A : Nat → Prop) (a : Nat → Nat) (k : Nat → ClassId) (mh : Int32) (mn : Int32) (mc : Int32) (ms : Nat → Int32) (ml : Nat → Int32) (mm : Nat → Int32) (mt : Nat → Int32) (mo : Nat → Int32) (mk : Int32) (mr : Nat → Int64) (my : Nat → Int32) (mb : Nat → Int64) (mf : Nat → Int32) (r : Int32) : Array Value → State → Outcome → State → Prop := va_Qi (fun (r1 : Int32) (_ : Unit) => r1 = r) (poW D [(k 21, .int), (k 22, .int), (k 23, .int), (k 24, .boolean), (k 25, .boolean), (k 26, .long), (k 27, .int), (k 28, .long), (k 29, .int)] (wM a k mh mn mc ms ml mm mt mo mk mr my mb mf) A) A
def J_M_standing_4 (rec4 : Int32 → Int32 → Int32 → Int32 → (Nat → Int32) → Option (Int32)) (x1 : Int32) (x2 : Int32) (x3 : Int32) (mn : Int32) (ml : Nat → Int32) : Option (Int32) :=
  (if ((4 : Int32) * mn) ≤ x3 then some (x2) else (if inb x3 40 then (if (ml x3.toNatClampNeg) = x1 then rec4 x1 (x2 + (1 : Int32)) (x3 + 1) mn ml else rec4 x1 (x2 + (0 : Int32)) (x3 + 1) mn ml) else none))
def L_M_standing_4 : Nat → Int32 → Int32 → Int32 → Int32 → (Nat → Int32) → Option (Int32)
  | 0 => fun _ _ _ _ _ => none
  | n + 1 => J_M_standing_4 (L_M_standing_4 n)
def J_M_standing_0 (x1 : Int32) (mn : Int32) (ml : Nat → Int32) : Option (Int32) :=
  L_M_standing_4 fu x1 (0 : Int32) (0 : Int32) mn ml
def F_M_standing (x1 : Int32) (mn : Int32) (ml : Nat → Int32) : Option (Int32) := J_M_standing_0 x1 mn ml
def H_M_standing_4 (p : Program) (l : Launch) (e : Env) (s : State) (m : MethodId) (args : Array Value) (below : List Frame) (meth : Method) (c : Code) (D : va_G) (A : Nat → Prop) (a : Nat → Nat) (k : Nat → ClassId) (mh : Int32) (mc : Int32) (ms : Nat → Int32) (mm : Nat → Int32) (mt : Nat → Int32) (mo : Nat → Int32) (mk : Int32) (mr : Nat → Int64) (my : Nat → Int32) (mb : Nat → Int64) (mf : Nat → Int32) (f : Int32 → Int32 → Int32 → Int32 → (Nat → Int32) → Option (Int32)) : Prop := ∀ (x1 : Int32) (x2 : Int32) (x3 : Int32) (mn : Int32) (ml : Nat → Int32) (r : Int32), f x1 x2 x3 mn ml = some r → ∀ (H : Heap) (locs : List Loc) (ls : Array Slot), va_P D classes (wM a k mh mn mc ms ml mm mt mo mk mr my mb mf) H → va_D A (wM a k mh mn mc ms ml mm mt mo mk mr my mb mf) → va_S A s.heap H locs → lv_has ls 4 [(0, .ref (a 20)), (1, .int x1), (2, .int x2), (3, .int x3)] → W p l e (rm_M_standing) s m args below meth c H locs 0 0 (MQ below (qc_M_standing D A a k mh mn mc ms ml mm mt mo mk mr my mb mf r) args s 0 0 A) (F0 m 4 ls [])
def H_M_standing_0 (p : Program) (l : Launch) (e : Env) (s : State) (m : MethodId) (args : Array Value) (below : List Frame) (meth : Method) (c : Code) (D : va_G) (A : Nat → Prop) (a : Nat → Nat) (k : Nat → ClassId) (mh : Int32) (mc : Int32) (ms : Nat → Int32) (mm : Nat → Int32) (mt : Nat → Int32) (mo : Nat → Int32) (mk : Int32) (mr : Nat → Int64) (my : Nat → Int32) (mb : Nat → Int64) (mf : Nat → Int32) (f : Int32 → Int32 → (Nat → Int32) → Option (Int32)) : Prop := ∀ (x1 : Int32) (mn : Int32) (ml : Nat → Int32) (r : Int32), f x1 mn ml = some r → ∀ (H : Heap) (locs : List Loc) (ls : Array Slot), va_P D classes (wM a k mh mn mc ms ml mm mt mo mk mr my mb mf) H → va_D A (wM a k mh mn mc ms ml mm mt mo mk mr my mb mf) → va_S A s.heap H locs → lv_has ls 4 [(0, .ref (a 20)), (1, .int x1)] → W p l e (rm_M_standing) s m args below meth c H locs 0 0 (MQ below (qc_M_standing D A a k mh mn mc ms ml mm mt mo mk mr my mb mf r) args s 0 0 A) (F0 m 0 ls [])
set_option maxHeartbeats 4000000 in
set_option maxRecDepth 100000 in
theorem k_M_standing_4 {p : Program} {l : Launch} {e : Env} {s : State} {m : MethodId} {args : Array Value} {below : List Frame} {meth : Method} {c : Code} {D : va_G} {A : Nat → Prop} {a : Nat → Nat} {k : Nat → ClassId} {mh : Int32} {mc : Int32} {ms : Nat → Int32} {mm : Nat → Int32} {mt : Nat → Int32} {mo : Nat → Int32} {mk : Int32} {mr : Nat → Int64} {my : Nat → Int32} {mb : Nat → Int64} {mf : Nat → Int32} {rec4 : Int32 → Int32 → Int32 → Int32 → (Nat → Int32) → Option (Int32)} (C : cx D [(k 21, .int), (k 22, .int), (k 23, .int), (k 24, .boolean), (k 25, .boolean), (k 26, .long), (k 27, .int), (k 28, .long), (k 29, .int)] R_M b_M_standing 4 (some .int) A p s m args meth c) (hrec4 : H_M_standing_4 p l e s m args below meth c D A a k mh mc ms mm mt mo mk mr my mb mf rec4) : H_M_standing_4 p l e s m args below meth c D A a k mh mc ms mm mt mo mk mr my mb mf (J_M_standing_4 rec4) := by
  obtain ⟨hx, hb, hr, hml, hown, ht, hlk, hA, hK⟩ := id C
  intro x1 x2 x3 mn ml r h H locs ls hP hD hS hl
  unfold J_M_standing_4 at h
  refine lv_iload_n hx hb d_M_standing_4 rfl (lv_at hl 3 rfl) ?_
  refine lv_iconst (v := 4) hx hb d_M_standing_5 (by decide) ?_
  refine lv_aload_n hx hb d_M_standing_6 rfl (lv_at hl 0 rfl) ?_
  refine va_get (D := D) (ci := 3) (v := .int mn) (C := R_M) (T := F_M) (N := 13) hx hb ht iC_M hown hK hP 0 rfl rfl 1 (by decide) (ht _ ix_163) (fun _ h9 => h9) rfl d_M_standing_7 ?_
  refine lv_imul hx hb d_M_standing_10 ?_
  refine lv_icmp_ge (tgt := 38) hx hb d_M_standing_11 (by decide) (fun c_1 => ?_) (fun c_1 => ?_)
  · have h := ite_T c_1 h
    refine lv_iload_n hx hb d_M_standing_38 rfl (lv_at hl 2 rfl) ?_
    cases h
    exact W.iret hx hb hr (fun t ht hW => ⟨⟨_, (), rfl, rfl, by rw [ht]; exact hP, va_K.moved hW.alike hK, hD⟩, hS.F ht⟩) hS.2.2 d_M_standing_39 hlk
  · have h := ite_F c_1 h
    refine lv_iload_n hx hb d_M_standing_14 rfl (lv_at hl 2 rfl) ?_
    refine lv_aload_n hx hb d_M_standing_15 rfl (lv_at hl 0 rfl) ?_
    refine va_get (D := D) (ci := 3) (v := .ref (a 22)) (C := R_M) (T := F_M) (N := 13) hx hb ht iC_M hown hK hP 0 rfl rfl 4 (by decide) (ht _ ix_164) (fun _ h9 => h9) rfl d_M_standing_16 ?_
    refine lv_iload_n hx hb d_M_standing_19 rfl (lv_at hl 3 rfl) ?_
    obtain ⟨g_2, h⟩ := gd_some h
    refine va_iald hx hb hK hP 2 1 rfl rfl (inb_in g_2) d_M_standing_20 ?_
    refine lv_iload_n hx hb d_M_standing_21 rfl (lv_at hl 1 rfl) ?_
    refine lv_icmp_ne (tgt := 29) hx hb d_M_standing_22 (by decide) (fun c_3 => ?_) (fun c_3 => ?_)
    · have h := ite_F c_3 h
      refine lv_iconst (v := 0) hx hb d_M_standing_29 (by decide) ?_
      refine lv_iadd hx hb d_M_standing_30 ?_
      refine lv_istore_n (lv' := [(2, .int (x2 + (0 : Int32))), (0, .ref (a 20)), (1, .int x1), (3, .int x3)]) hx hb d_M_standing_31 rfl hl (by decide) rfl (fun ls hl => ?_)
      refine lv_iinc (v := x3 + 1) (lv' := [(3, .int (x3 + 1)), (2, .int (x2 + (0 : Int32))), (0, .ref (a 20)), (1, .int x1)]) hx hb d_M_standing_32 hl (k := 3) rfl rfl (by decide) rfl (fun ls hl => ?_)
      refine lv_goto (tgt := 4) hx hb d_M_standing_35 (by decide) ?_
      exact hrec4 _ _ _ _ _ _ h _ _ _ hP hD hS (lv_sub hl [2, 3, 1, 0] rfl)
    · have h := ite_T c_3 h
      refine lv_iconst (v := 1) hx hb d_M_standing_25 (by decide) ?_
      refine lv_goto (tgt := 30) hx hb d_M_standing_26 (by decide) ?_
      refine lv_iadd hx hb d_M_standing_30 ?_
      refine lv_istore_n (lv' := [(2, .int (x2 + (1 : Int32))), (0, .ref (a 20)), (1, .int x1), (3, .int x3)]) hx hb d_M_standing_31 rfl hl (by decide) rfl (fun ls hl => ?_)
      refine lv_iinc (v := x3 + 1) (lv' := [(3, .int (x3 + 1)), (2, .int (x2 + (1 : Int32))), (0, .ref (a 20)), (1, .int x1)]) hx hb d_M_standing_32 hl (k := 3) rfl rfl (by decide) rfl (fun ls hl => ?_)
      refine lv_goto (tgt := 4) hx hb d_M_standing_35 (by decide) ?_
      exact hrec4 _ _ _ _ _ _ h _ _ _ hP hD hS (lv_sub hl [2, 3, 1, 0] rfl)
theorem k_M_standing_4_L {p : Program} {l : Launch} {e : Env} {s : State} {m : MethodId} {args : Array Value} {below : List Frame} {meth : Method} {c : Code} {D : va_G} {A : Nat → Prop} {a : Nat → Nat} {k : Nat → ClassId} {mh : Int32} {mc : Int32} {ms : Nat → Int32} {mm : Nat → Int32} {mt : Nat → Int32} {mo : Nat → Int32} {mk : Int32} {mr : Nat → Int64} {my : Nat → Int32} {mb : Nat → Int64} {mf : Nat → Int32} (C : cx D [(k 21, .int), (k 22, .int), (k 23, .int), (k 24, .boolean), (k 25, .boolean), (k 26, .long), (k 27, .int), (k 28, .long), (k 29, .int)] R_M b_M_standing 4 (some .int) A p s m args meth c) : ∀ n : Nat, H_M_standing_4 p l e s m args below meth c D A a k mh mc ms mm mt mo mk mr my mb mf (L_M_standing_4 n)
  | 0 => fun _ _ _ _ _ _ h => nomatch h
  | n + 1 => k_M_standing_4 C (k_M_standing_4_L C n)
set_option maxHeartbeats 4000000 in
set_option maxRecDepth 100000 in
theorem k_M_standing_0 {p : Program} {l : Launch} {e : Env} {s : State} {m : MethodId} {args : Array Value} {below : List Frame} {meth : Method} {c : Code} {D : va_G} {A : Nat → Prop} {a : Nat → Nat} {k : Nat → ClassId} {mh : Int32} {mc : Int32} {ms : Nat → Int32} {mm : Nat → Int32} {mt : Nat → Int32} {mo : Nat → Int32} {mk : Int32} {mr : Nat → Int64} {my : Nat → Int32} {mb : Nat → Int64} {mf : Nat → Int32} (C : cx D [(k 21, .int), (k 22, .int), (k 23, .int), (k 24, .boolean), (k 25, .boolean), (k 26, .long), (k 27, .int), (k 28, .long), (k 29, .int)] R_M b_M_standing 4 (some .int) A p s m args meth c) : H_M_standing_0 p l e s m args below meth c D A a k mh mc ms mm mt mo mk mr my mb mf (J_M_standing_0) := by
  obtain ⟨hx, hb, hr, hml, hown, ht, hlk, hA, hK⟩ := id C
  intro x1 mn ml r h H locs ls hP hD hS hl
  unfold J_M_standing_0 at h
  refine lv_iconst (v := 0) hx hb d_M_standing_0 (by decide) ?_
  refine lv_istore_n (lv' := [(2, .int (0 : Int32)), (0, .ref (a 20)), (1, .int x1)]) hx hb d_M_standing_1 rfl hl (by decide) rfl (fun ls hl => ?_)
  refine lv_iconst (v := 0) hx hb d_M_standing_2 (by decide) ?_
  refine lv_istore_n (lv' := [(3, .int (0 : Int32)), (2, .int (0 : Int32)), (0, .ref (a 20)), (1, .int x1)]) hx hb d_M_standing_3 rfl hl (by decide) rfl (fun ls hl => ?_)
  exact (k_M_standing_4_L C fu) _ _ _ _ _ _ h _ _ _ hP hD hS (lv_sub hl [2, 3, 1, 0] rfl)
set_option maxRecDepth 20000 in
theorem c_M_standing (l : Launch) (D : va_G) (a : Nat → Nat) (k : Nat → ClassId) (sz : Nat) (x1 : Int32) (mh : Int32) (mn : Int32) (mc : Int32) (ms : Nat → Int32) (ml : Nat → Int32) (mm : Nat → Int32) (mt : Nat → Int32) (mo : Nat → Int32) (mk : Int32) (mr : Nat → Int64) (my : Nat → Int32) (mb : Nat → Int64) (mf : Nat → Int32) (r : Int32) (h : F_M_standing x1 mn ml = some r) : Met l y_M_standing (Cond.code y_M_standing b_M_standing 4 (some .int) :: lw_g) (rm_M_standing) (va_Pc [.ref (a 20), .int x1] (pcW D [(k 21, .int), (k 22, .int), (k 23, .int), (k 24, .boolean), (k 25, .boolean), (k 26, .long), (k 27, .int), (k 28, .long), (k 29, .int)] (wM a k mh mn mc ms ml mm mt mo mk mr my mb mf) sz)) (qc_M_standing D (va_A (wM a k mh mn mc ms ml mm mt mo mk mr my mb mf) sz) a k mh mn mc ms ml mm mt mo mk mr my mb mf r) 0 0 (va_A (wM a k mh mn mc ms ml mm mt mo mk mr my mb mf) sz) := by
  refine Met.ofW (cc := b_M_standing) (maxL := 4) (ret := (some .int)) (by decide) rfl ?_
  intro p e s m args below meth c s₁ B hml hv
  obtain ⟨rfl, hsz, hP, hK, hD0⟩ := hv
  have hts := atoms_spec (ws := Cond.code y_M_standing b_M_standing 4 (some .int) :: lw_g) B.pre
  subst hsz
  have hD := hD0.self (sz := s.heap.size)
  have hl := lv_entry ([.ref (a 20), .int x1]) (n := 4) (Nat.le_of_ble_eq_true rfl)
  rw [lg_entry_eq]
  generalize (lg_sl ([.ref (a 20), .int x1]) ++ List.replicate (4 - (lg_sl ([.ref (a 20), .int x1])).length) Slot.unset).toArray = ls at hl ⊢
  exact k_M_standing_0 ⟨B.exec, B.bytes, B.returns, hml, findClass_of_methodNamed B.named, fun w hw => hts w (List.mem_cons_of_mem _ hw), B.notSynchronized, fun q h => Or.inr h, hK⟩ _ _ _ _ h _ _ _ hP hD va_S.rf hl

def rm_M_fault : Room := { frames := 1, cells := 0, slots := 0, locals := 23 }
def qc_M_fault (D : va_G) (A : Nat → Prop) (a : Nat → Nat) (k : Nat → ClassId) (mh : Int32) (mn : Int32) (mc : Int32) (ms : Nat → Int32) (ml : Nat → Int32) (mm : Nat → Int32) (mt : Nat → Int32) (mo : Nat → Int32) (mk : Int32) (mr : Nat → Int64) (my : Nat → Int32) (mb : Nat → Int64) (mf : Nat → Int32) (r : Int32) : Array Value → State → Outcome → State → Prop := va_Qi (fun (r1 : Int32) (_ : Unit) => r1 = r) (poW D [(k 21, .int), (k 22, .int), (k 23, .int), (k 24, .boolean), (k 25, .boolean), (k 26, .long), (k 27, .int), (k 28, .long), (k 29, .int)] (wM a k mh mn mc ms ml mm mt mo mk mr my mb mf) A) A
def J_M_fault_42 (rec4 : Int32 → Int32 → Int32 → (Nat → Int32) → Option (Int32)) (x2 : Int32) (mn : Int32) (ml : Nat → Int32) : Option (Int32) :=
  (if inb x2 40 then rec4 (ml x2.toNatClampNeg) (x2 + 1) mn ml else none)
def J_M_fault_4 (rec4 : Int32 → Int32 → Int32 → (Nat → Int32) → Option (Int32)) (x1 : Int32) (x2 : Int32) (mn : Int32) (ml : Nat → Int32) : Option (Int32) :=
  (if ((4 : Int32) * mn) ≤ x2 then some (x1) else (if inb x2 40 then (Option.bind (F_M_standing (ml x2.toNatClampNeg) mn ml) (fun v_3 => (if v_3 = (2 : Int32) then rec4 x1 (x2 + 1) mn ml else (if x1 = 0 then J_M_fault_42 rec4 x2 mn ml else (if inb x2 40 then (if x1 ≤ (ml x2.toNatClampNeg) then rec4 x1 (x2 + 1) mn ml else J_M_fault_42 rec4 x2 mn ml) else none))))) else none))
def L_M_fault_4 : Nat → Int32 → Int32 → Int32 → (Nat → Int32) → Option (Int32)
  | 0 => fun _ _ _ _ => none
  | n + 1 => J_M_fault_4 (L_M_fault_4 n)
def J_M_fault_0 (mn : Int32) (ml : Nat → Int32) : Option (Int32) :=
  L_M_fault_4 fu (0 : Int32) (0 : Int32) mn ml
def F_M_fault (mn : Int32) (ml : Nat → Int32) : Option (Int32) := J_M_fault_0 mn ml
def H_M_fault_42 (p : Program) (l : Launch) (e : Env) (s : State) (m : MethodId) (args : Array Value) (below : List Frame) (meth : Method) (c : Code) (D : va_G) (A : Nat → Prop) (a : Nat → Nat) (k : Nat → ClassId) (mh : Int32) (mc : Int32) (ms : Nat → Int32) (mm : Nat → Int32) (mt : Nat → Int32) (mo : Nat → Int32) (mk : Int32) (mr : Nat → Int64) (my : Nat → Int32) (mb : Nat → Int64) (mf : Nat → Int32) (f : Int32 → Int32 → (Nat → Int32) → Option (Int32)) : Prop := ∀ (x2 : Int32) (mn : Int32) (ml : Nat → Int32) (r : Int32), f x2 mn ml = some r → ∀ (H : Heap) (locs : List Loc) (ls : Array Slot), va_P D classes (wM a k mh mn mc ms ml mm mt mo mk mr my mb mf) H → va_D A (wM a k mh mn mc ms ml mm mt mo mk mr my mb mf) → va_S A s.heap H locs → lv_has ls 3 [(0, .ref (a 20)), (2, .int x2)] → W p l e (rm_M_fault) s m args below meth c H locs 0 0 (MQ below (qc_M_fault D A a k mh mn mc ms ml mm mt mo mk mr my mb mf r) args s 0 0 A) (F0 m 42 ls [])
def H_M_fault_4 (p : Program) (l : Launch) (e : Env) (s : State) (m : MethodId) (args : Array Value) (below : List Frame) (meth : Method) (c : Code) (D : va_G) (A : Nat → Prop) (a : Nat → Nat) (k : Nat → ClassId) (mh : Int32) (mc : Int32) (ms : Nat → Int32) (mm : Nat → Int32) (mt : Nat → Int32) (mo : Nat → Int32) (mk : Int32) (mr : Nat → Int64) (my : Nat → Int32) (mb : Nat → Int64) (mf : Nat → Int32) (f : Int32 → Int32 → Int32 → (Nat → Int32) → Option (Int32)) : Prop := ∀ (x1 : Int32) (x2 : Int32) (mn : Int32) (ml : Nat → Int32) (r : Int32), f x1 x2 mn ml = some r → ∀ (H : Heap) (locs : List Loc) (ls : Array Slot), va_P D classes (wM a k mh mn mc ms ml mm mt mo mk mr my mb mf) H → va_D A (wM a k mh mn mc ms ml mm mt mo mk mr my mb mf) → va_S A s.heap H locs → lv_has ls 3 [(0, .ref (a 20)), (1, .int x1), (2, .int x2)] → W p l e (rm_M_fault) s m args below meth c H locs 0 0 (MQ below (qc_M_fault D A a k mh mn mc ms ml mm mt mo mk mr my mb mf r) args s 0 0 A) (F0 m 4 ls [])
def H_M_fault_0 (p : Program) (l : Launch) (e : Env) (s : State) (m : MethodId) (args : Array Value) (below : List Frame) (meth : Method) (c : Code) (D : va_G) (A : Nat → Prop) (a : Nat → Nat) (k : Nat → ClassId) (mh : Int32) (mc : Int32) (ms : Nat → Int32) (mm : Nat → Int32) (mt : Nat → Int32) (mo : Nat → Int32) (mk : Int32) (mr : Nat → Int64) (my : Nat → Int32) (mb : Nat → Int64) (mf : Nat → Int32) (f : Int32 → (Nat → Int32) → Option (Int32)) : Prop := ∀ (mn : Int32) (ml : Nat → Int32) (r : Int32), f mn ml = some r → ∀ (H : Heap) (locs : List Loc) (ls : Array Slot), va_P D classes (wM a k mh mn mc ms ml mm mt mo mk mr my mb mf) H → va_D A (wM a k mh mn mc ms ml mm mt mo mk mr my mb mf) → va_S A s.heap H locs → lv_has ls 3 [(0, .ref (a 20))] → W p l e (rm_M_fault) s m args below meth c H locs 0 0 (MQ below (qc_M_fault D A a k mh mn mc ms ml mm mt mo mk mr my mb mf r) args s 0 0 A) (F0 m 0 ls [])
set_option maxHeartbeats 4000000 in
set_option maxRecDepth 100000 in
theorem k_M_fault_42 {p : Program} {l : Launch} {e : Env} {s : State} {m : MethodId} {args : Array Value} {below : List Frame} {meth : Method} {c : Code} {D : va_G} {A : Nat → Prop} {a : Nat → Nat} {k : Nat → ClassId} {mh : Int32} {mc : Int32} {ms : Nat → Int32} {mm : Nat → Int32} {mt : Nat → Int32} {mo : Nat → Int32} {mk : Int32} {mr : Nat → Int64} {my : Nat → Int32} {mb : Nat → Int64} {mf : Nat → Int32} {rec4 : Int32 → Int32 → Int32 → (Nat → Int32) → Option (Int32)} (C : cx D [(k 21, .int), (k 22, .int), (k 23, .int), (k 24, .boolean), (k 25, .boolean), (k 26, .long), (k 27, .int), (k 28, .long), (k 29, .int)] R_M b_M_fault 3 (some .int) A p s m args meth c) (hrec4 : H_M_fault_4 p l e s m args below meth c D A a k mh mc ms mm mt mo mk mr my mb mf rec4) : H_M_fault_42 p l e s m args below meth c D A a k mh mc ms mm mt mo mk mr my mb mf (J_M_fault_42 rec4) := by
  obtain ⟨hx, hb, hr, hml, hown, ht, hlk, hA, hK⟩ := id C
  intro x2 mn ml r h H locs ls hP hD hS hl
  unfold J_M_fault_42 at h
  refine lv_aload_n hx hb d_M_fault_42 rfl (lv_at hl 0 rfl) ?_
  refine va_get (D := D) (ci := 3) (v := .ref (a 22)) (C := R_M) (T := F_M) (N := 13) hx hb ht iC_M hown hK hP 0 rfl rfl 4 (by decide) (ht _ ix_164) (fun _ h9 => h9) rfl d_M_fault_43 ?_
  refine lv_iload_n hx hb d_M_fault_46 rfl (lv_at hl 1 rfl) ?_
  obtain ⟨g_1, h⟩ := gd_some h
  refine va_iald hx hb hK hP 2 1 rfl rfl (inb_in g_1) d_M_fault_47 ?_
  refine lv_goto (tgt := 52) hx hb d_M_fault_48 (by decide) ?_
  refine lv_istore_n (lv' := [(1, .int (ml x2.toNatClampNeg)), (0, .ref (a 20)), (2, .int x2)]) hx hb d_M_fault_52 rfl hl (by decide) rfl (fun ls hl => ?_)
  refine lv_iinc (v := x2 + 1) (lv' := [(2, .int (x2 + 1)), (1, .int (ml x2.toNatClampNeg)), (0, .ref (a 20))]) hx hb d_M_fault_53 hl (k := 2) rfl rfl (by decide) rfl (fun ls hl => ?_)
  refine lv_goto (tgt := 4) hx hb d_M_fault_56 (by decide) ?_
  exact hrec4 _ _ _ _ _ h _ _ _ hP hD hS (lv_sub hl [2, 1, 0] rfl)
set_option maxHeartbeats 4000000 in
set_option maxRecDepth 100000 in
theorem k_M_fault_4 {p : Program} {l : Launch} {e : Env} {s : State} {m : MethodId} {args : Array Value} {below : List Frame} {meth : Method} {c : Code} {D : va_G} {A : Nat → Prop} {a : Nat → Nat} {k : Nat → ClassId} {mh : Int32} {mc : Int32} {ms : Nat → Int32} {mm : Nat → Int32} {mt : Nat → Int32} {mo : Nat → Int32} {mk : Int32} {mr : Nat → Int64} {my : Nat → Int32} {mb : Nat → Int64} {mf : Nat → Int32} {rec4 : Int32 → Int32 → Int32 → (Nat → Int32) → Option (Int32)} (C : cx D [(k 21, .int), (k 22, .int), (k 23, .int), (k 24, .boolean), (k 25, .boolean), (k 26, .long), (k 27, .int), (k 28, .long), (k 29, .int)] R_M b_M_fault 3 (some .int) A p s m args meth c) (hrec4 : H_M_fault_4 p l e s m args below meth c D A a k mh mc ms mm mt mo mk mr my mb mf rec4) : H_M_fault_4 p l e s m args below meth c D A a k mh mc ms mm mt mo mk mr my mb mf (J_M_fault_4 rec4) := by
  obtain ⟨hx, hb, hr, hml, hown, ht, hlk, hA, hK⟩ := id C
  intro x1 x2 mn ml r h H locs ls hP hD hS hl
  unfold J_M_fault_4 at h
  refine lv_iload_n hx hb d_M_fault_4 rfl (lv_at hl 2 rfl) ?_
  refine lv_iconst (v := 4) hx hb d_M_fault_5 (by decide) ?_
  refine lv_aload_n hx hb d_M_fault_6 rfl (lv_at hl 0 rfl) ?_
  refine va_get (D := D) (ci := 3) (v := .int mn) (C := R_M) (T := F_M) (N := 13) hx hb ht iC_M hown hK hP 0 rfl rfl 1 (by decide) (ht _ ix_163) (fun _ h9 => h9) rfl d_M_fault_7 ?_
  refine lv_imul hx hb d_M_fault_10 ?_
  refine lv_icmp_ge (tgt := 59) hx hb d_M_fault_11 (by decide) (fun c_1 => ?_) (fun c_1 => ?_)
  · have h := ite_T c_1 h
    refine lv_iload_n hx hb d_M_fault_59 rfl (lv_at hl 1 rfl) ?_
    cases h
    exact W.iret hx hb hr (fun t ht hW => ⟨⟨_, (), rfl, rfl, by rw [ht]; exact hP, va_K.moved hW.alike hK, hD⟩, hS.F ht⟩) hS.2.2 d_M_fault_60 hlk
  · have h := ite_F c_1 h
    refine lv_aload_n hx hb d_M_fault_14 rfl (lv_at hl 0 rfl) ?_
    refine lv_aload_n hx hb d_M_fault_15 rfl (lv_at hl 0 rfl) ?_
    refine va_get (D := D) (ci := 3) (v := .ref (a 22)) (C := R_M) (T := F_M) (N := 13) hx hb ht iC_M hown hK hP 0 rfl rfl 4 (by decide) (ht _ ix_164) (fun _ h9 => h9) rfl d_M_fault_16 ?_
    refine lv_iload_n hx hb d_M_fault_19 rfl (lv_at hl 2 rfl) ?_
    obtain ⟨g_2, h⟩ := gd_some h
    refine va_iald hx hb hK hP 2 1 rfl rfl (inb_in g_2) d_M_fault_20 ?_
    obtain ⟨v_3, e_3, h⟩ := bd_some h
    refine go_Vi (r := v_3) (As := [.int (ml x2.toNatClampNeg)]) (rest := []) (wc := (wM a k mh mn mc ms ml mm mt mo mk mr my mb mf)) (wr := []) (w1 := (wM a k mh mn mc ms ml mm mt mo mk mr my mb mf)) (w2 := (wM a k mh mn mc ms ml mm mt mo mk mr my mb mf)) (tc := [(k 21, .int), (k 22, .int), (k 23, .int), (k 24, .boolean), (k 25, .boolean), (k 26, .long), (k 27, .int), (k 28, .long), (k 29, .int)]) hx hb hml hown ht (c_M_standing l D a k H.size (ml x2.toNatClampNeg) mh mn mc ms ml mm mt mo mk mr my mb mf v_3 e_3) g_M_53 ⟨rfl, rfl⟩ (n := 1) (by decide +kernel) ⟨(Nat.le_of_ble_eq_true rfl), (Nat.le_of_ble_eq_true rfl)⟩ hP hD hK hS hA ⟨Nat.zero_le _, Nat.zero_le _⟩ [0, 1, 2, 3, 4, 5, 6, 7, 8, 9] [] [0, 1, 2, 3, 4, 5, 6, 7, 8] [0, 1, 2, 3, 4, 5, 6, 7, 8, 9] rfl rfl rfl rfl (by decide) (by decide) (by decide) rfl (by decide) 0 rfl rfl rfl rfl rfl hl.1 (Nat.le_of_ble_eq_true rfl) d_M_fault_21 (fun H locs hP hD hS => ?_)
    refine lv_iconst (v := 2) hx hb d_M_fault_24 (by decide) ?_
    refine lv_icmp_eq (tgt := 51) hx hb d_M_fault_25 (by decide) (fun c_4 => ?_) (fun c_4 => ?_)
    · have h := ite_T c_4 h
      refine lv_iload_n hx hb d_M_fault_51 rfl (lv_at hl 1 rfl) ?_
      refine lv_istore_n (lv' := [(1, .int x1), (0, .ref (a 20)), (2, .int x2)]) hx hb d_M_fault_52 rfl hl (by decide) rfl (fun ls hl => ?_)
      refine lv_iinc (v := x2 + 1) (lv' := [(2, .int (x2 + 1)), (1, .int x1), (0, .ref (a 20))]) hx hb d_M_fault_53 hl (k := 2) rfl rfl (by decide) rfl (fun ls hl => ?_)
      refine lv_goto (tgt := 4) hx hb d_M_fault_56 (by decide) ?_
      exact hrec4 _ _ _ _ _ h _ _ _ hP hD hS (lv_sub hl [2, 1, 0] rfl)
    · have h := ite_F c_4 h
      refine lv_iload_n hx hb d_M_fault_28 rfl (lv_at hl 1 rfl) ?_
      refine lv_if_eq (tgt := 42) hx hb d_M_fault_29 (by decide) (fun c_5 => ?_) (fun c_5 => ?_)
      · have h := ite_T c_5 h
        exact (k_M_fault_42 C hrec4) _ _ _ _ h _ _ _ hP hD hS (lv_sub hl [0, 2] rfl)
      · have h := ite_F c_5 h
        refine lv_aload_n hx hb d_M_fault_32 rfl (lv_at hl 0 rfl) ?_
        refine va_get (D := D) (ci := 3) (v := .ref (a 22)) (C := R_M) (T := F_M) (N := 13) hx hb ht iC_M hown hK hP 0 rfl rfl 4 (by decide) (ht _ ix_164) (fun _ h9 => h9) rfl d_M_fault_33 ?_
        refine lv_iload_n hx hb d_M_fault_36 rfl (lv_at hl 2 rfl) ?_
        obtain ⟨g_6, h⟩ := gd_some h
        refine va_iald hx hb hK hP 2 1 rfl rfl (inb_in g_6) d_M_fault_37 ?_
        refine lv_iload_n hx hb d_M_fault_38 rfl (lv_at hl 1 rfl) ?_
        refine lv_icmp_ge (tgt := 51) hx hb d_M_fault_39 (by decide) (fun c_7 => ?_) (fun c_7 => ?_)
        · have h := ite_T c_7 h
          refine lv_iload_n hx hb d_M_fault_51 rfl (lv_at hl 1 rfl) ?_
          refine lv_istore_n (lv' := [(1, .int x1), (0, .ref (a 20)), (2, .int x2)]) hx hb d_M_fault_52 rfl hl (by decide) rfl (fun ls hl => ?_)
          refine lv_iinc (v := x2 + 1) (lv' := [(2, .int (x2 + 1)), (1, .int x1), (0, .ref (a 20))]) hx hb d_M_fault_53 hl (k := 2) rfl rfl (by decide) rfl (fun ls hl => ?_)
          refine lv_goto (tgt := 4) hx hb d_M_fault_56 (by decide) ?_
          exact hrec4 _ _ _ _ _ h _ _ _ hP hD hS (lv_sub hl [2, 1, 0] rfl)
        · have h := ite_F c_7 h
          exact (k_M_fault_42 C hrec4) _ _ _ _ h _ _ _ hP hD hS (lv_sub hl [0, 2] rfl)
theorem k_M_fault_4_L {p : Program} {l : Launch} {e : Env} {s : State} {m : MethodId} {args : Array Value} {below : List Frame} {meth : Method} {c : Code} {D : va_G} {A : Nat → Prop} {a : Nat → Nat} {k : Nat → ClassId} {mh : Int32} {mc : Int32} {ms : Nat → Int32} {mm : Nat → Int32} {mt : Nat → Int32} {mo : Nat → Int32} {mk : Int32} {mr : Nat → Int64} {my : Nat → Int32} {mb : Nat → Int64} {mf : Nat → Int32} (C : cx D [(k 21, .int), (k 22, .int), (k 23, .int), (k 24, .boolean), (k 25, .boolean), (k 26, .long), (k 27, .int), (k 28, .long), (k 29, .int)] R_M b_M_fault 3 (some .int) A p s m args meth c) : ∀ n : Nat, H_M_fault_4 p l e s m args below meth c D A a k mh mc ms mm mt mo mk mr my mb mf (L_M_fault_4 n)
  | 0 => fun _ _ _ _ _ h => nomatch h
  | n + 1 => k_M_fault_4 C (k_M_fault_4_L C n)
set_option maxHeartbeats 4000000 in
set_option maxRecDepth 100000 in
theorem k_M_fault_0 {p : Program} {l : Launch} {e : Env} {s : State} {m : MethodId} {args : Array Value} {below : List Frame} {meth : Method} {c : Code} {D : va_G} {A : Nat → Prop} {a : Nat → Nat} {k : Nat → ClassId} {mh : Int32} {mc : Int32} {ms : Nat → Int32} {mm : Nat → Int32} {mt : Nat → Int32} {mo : Nat → Int32} {mk : Int32} {mr : Nat → Int64} {my : Nat → Int32} {mb : Nat → Int64} {mf : Nat → Int32} (C : cx D [(k 21, .int), (k 22, .int), (k 23, .int), (k 24, .boolean), (k 25, .boolean), (k 26, .long), (k 27, .int), (k 28, .long), (k 29, .int)] R_M b_M_fault 3 (some .int) A p s m args meth c) : H_M_fault_0 p l e s m args below meth c D A a k mh mc ms mm mt mo mk mr my mb mf (J_M_fault_0) := by
  obtain ⟨hx, hb, hr, hml, hown, ht, hlk, hA, hK⟩ := id C
  intro mn ml r h H locs ls hP hD hS hl
  unfold J_M_fault_0 at h
  refine lv_iconst (v := 0) hx hb d_M_fault_0 (by decide) ?_
  refine lv_istore_n (lv' := [(1, .int (0 : Int32)), (0, .ref (a 20))]) hx hb d_M_fault_1 rfl hl (by decide) rfl (fun ls hl => ?_)
  refine lv_iconst (v := 0) hx hb d_M_fault_2 (by decide) ?_
  refine lv_istore_n (lv' := [(2, .int (0 : Int32)), (1, .int (0 : Int32)), (0, .ref (a 20))]) hx hb d_M_fault_3 rfl hl (by decide) rfl (fun ls hl => ?_)
  exact (k_M_fault_4_L C fu) _ _ _ _ _ h _ _ _ hP hD hS (lv_sub hl [2, 1, 0] rfl)
set_option maxRecDepth 20000 in
theorem c_M_fault (l : Launch) (D : va_G) (a : Nat → Nat) (k : Nat → ClassId) (sz : Nat) (mh : Int32) (mn : Int32) (mc : Int32) (ms : Nat → Int32) (ml : Nat → Int32) (mm : Nat → Int32) (mt : Nat → Int32) (mo : Nat → Int32) (mk : Int32) (mr : Nat → Int64) (my : Nat → Int32) (mb : Nat → Int64) (mf : Nat → Int32) (r : Int32) (h : F_M_fault mn ml = some r) : Met l y_M_fault (Cond.code y_M_fault b_M_fault 3 (some .int) :: lw_g) (rm_M_fault) (va_Pc [.ref (a 20)] (pcW D [(k 21, .int), (k 22, .int), (k 23, .int), (k 24, .boolean), (k 25, .boolean), (k 26, .long), (k 27, .int), (k 28, .long), (k 29, .int)] (wM a k mh mn mc ms ml mm mt mo mk mr my mb mf) sz)) (qc_M_fault D (va_A (wM a k mh mn mc ms ml mm mt mo mk mr my mb mf) sz) a k mh mn mc ms ml mm mt mo mk mr my mb mf r) 0 0 (va_A (wM a k mh mn mc ms ml mm mt mo mk mr my mb mf) sz) := by
  refine Met.ofW (cc := b_M_fault) (maxL := 3) (ret := (some .int)) (by decide) rfl ?_
  intro p e s m args below meth c s₁ B hml hv
  obtain ⟨rfl, hsz, hP, hK, hD0⟩ := hv
  have hts := atoms_spec (ws := Cond.code y_M_fault b_M_fault 3 (some .int) :: lw_g) B.pre
  subst hsz
  have hD := hD0.self (sz := s.heap.size)
  have hl := lv_entry ([.ref (a 20)]) (n := 3) (Nat.le_of_ble_eq_true rfl)
  rw [lg_entry_eq]
  generalize (lg_sl ([.ref (a 20)]) ++ List.replicate (3 - (lg_sl ([.ref (a 20)])).length) Slot.unset).toArray = ls at hl ⊢
  exact k_M_fault_0 ⟨B.exec, B.bytes, B.returns, hml, findClass_of_methodNamed B.named, fun w hw => hts w (List.mem_cons_of_mem _ hw), B.notSynchronized, fun q h => Or.inr h, hK⟩ _ _ _ h _ _ _ hP hD va_S.rf hl

def rm_M_findMates : Room := { frames := 0, cells := 0, slots := 0, locals := 0 }
def qc_M_findMates (D : va_G) (A : Nat → Prop) (a : Nat → Nat) (k : Nat → ClassId) (mh : Int32) (mn : Int32) (mc : Int32) (ms : Nat → Int32) (ml : Nat → Int32) (mt : Nat → Int32) (mo : Nat → Int32) (mk : Int32) (mr : Nat → Int64) (my : Nat → Int32) (mb : Nat → Int64) (mf : Nat → Int32) (r : (Nat → Int32)) : Array Value → State → Outcome → State → Prop := va_Qv (fun (_ : Unit) => True) (poW D [(k 21, .int), (k 22, .int), (k 23, .int), (k 24, .boolean), (k 25, .boolean), (k 26, .long), (k 27, .int), (k 28, .long), (k 29, .int)] (wM a k mh mn mc ms ml r mt mo mk mr my mb mf) A) A
def J_M_findMates_53 (rec2 : Int32 → Int32 → (Nat → Int32) → (Nat → Int32) → Option ((Nat → Int32))) (rec14 : Int32 → Int32 → Int32 → (Nat → Int32) → (Nat → Int32) → Option ((Nat → Int32))) (x1 : Int32) (x2 : Int32) (y0 : Int32) (mn : Int32) (ml : Nat → Int32) (mm : Nat → Int32) : Option ((Nat → Int32)) :=
  (if inb x1 40 then (if inb y0 40 then rec14 x1 (x2 + 1) mn ml (upd mm y0.toNatClampNeg (mm x1.toNatClampNeg)) else none) else none)
def J_M_findMates_14 (rec2 : Int32 → Int32 → (Nat → Int32) → (Nat → Int32) → Option ((Nat → Int32))) (rec14 : Int32 → Int32 → Int32 → (Nat → Int32) → (Nat → Int32) → Option ((Nat → Int32))) (x1 : Int32) (x2 : Int32) (mn : Int32) (ml : Nat → Int32) (mm : Nat → Int32) : Option ((Nat → Int32)) :=
  (if ((4 : Int32) * mn) ≤ x2 then rec2 (x1 + 1) mn ml mm else (if x1 = x2 then J_M_findMates_53 rec2 rec14 x1 x2 x1 mn ml mm else (if inb x1 40 then (if inb x2 40 then (if (ml x1.toNatClampNeg) = (ml x2.toNatClampNeg) then (if inb x1 40 then rec14 x1 (x2 + 1) mn ml (upd mm x1.toNatClampNeg x2) else none) else J_M_findMates_53 rec2 rec14 x1 x2 x1 mn ml mm) else none) else none)))
def L_M_findMates_14 (rec2 : Int32 → Int32 → (Nat → Int32) → (Nat → Int32) → Option ((Nat → Int32))) : Nat → Int32 → Int32 → Int32 → (Nat → Int32) → (Nat → Int32) → Option ((Nat → Int32))
  | 0 => fun _ _ _ _ _ => none
  | n + 1 => J_M_findMates_14 rec2 (L_M_findMates_14 rec2 n)
def J_M_findMates_2 (rec2 : Int32 → Int32 → (Nat → Int32) → (Nat → Int32) → Option ((Nat → Int32))) (x1 : Int32) (mn : Int32) (ml : Nat → Int32) (mm : Nat → Int32) : Option ((Nat → Int32)) :=
  (if ((4 : Int32) * mn) ≤ x1 then some (mm) else L_M_findMates_14 rec2 fu x1 (0 : Int32) mn ml mm)
def L_M_findMates_2 : Nat → Int32 → Int32 → (Nat → Int32) → (Nat → Int32) → Option ((Nat → Int32))
  | 0 => fun _ _ _ _ => none
  | n + 1 => J_M_findMates_2 (L_M_findMates_2 n)
def J_M_findMates_0 (mn : Int32) (ml : Nat → Int32) (mm : Nat → Int32) : Option ((Nat → Int32)) :=
  L_M_findMates_2 fu (0 : Int32) mn ml mm
def F_M_findMates (mn : Int32) (ml : Nat → Int32) (mm : Nat → Int32) : Option ((Nat → Int32)) := J_M_findMates_0 mn ml mm
def H_M_findMates_53 (p : Program) (l : Launch) (e : Env) (s : State) (m : MethodId) (args : Array Value) (below : List Frame) (meth : Method) (c : Code) (D : va_G) (A : Nat → Prop) (a : Nat → Nat) (k : Nat → ClassId) (mh : Int32) (mc : Int32) (ms : Nat → Int32) (mt : Nat → Int32) (mo : Nat → Int32) (mk : Int32) (mr : Nat → Int64) (my : Nat → Int32) (mb : Nat → Int64) (mf : Nat → Int32) (f : Int32 → Int32 → Int32 → Int32 → (Nat → Int32) → (Nat → Int32) → Option ((Nat → Int32))) : Prop := ∀ (x1 : Int32) (x2 : Int32) (y0 : Int32) (mn : Int32) (ml : Nat → Int32) (mm : Nat → Int32) (r : (Nat → Int32)), f x1 x2 y0 mn ml mm = some r → ∀ (H : Heap) (locs : List Loc) (ls : Array Slot), va_P D classes (wM a k mh mn mc ms ml mm mt mo mk mr my mb mf) H → va_D A (wM a k mh mn mc ms ml mm mt mo mk mr my mb mf) → va_S A s.heap H locs → lv_has ls 3 [(0, .ref (a 20)), (1, .int x1), (2, .int x2)] → W p l e (rm_M_findMates) s m args below meth c H locs 0 0 (MQ below (qc_M_findMates D A a k mh mn mc ms ml mt mo mk mr my mb mf r) args s 0 0 A) (F0 m 53 ls [.int y0, .ref (a 23)])
def H_M_findMates_14 (p : Program) (l : Launch) (e : Env) (s : State) (m : MethodId) (args : Array Value) (below : List Frame) (meth : Method) (c : Code) (D : va_G) (A : Nat → Prop) (a : Nat → Nat) (k : Nat → ClassId) (mh : Int32) (mc : Int32) (ms : Nat → Int32) (mt : Nat → Int32) (mo : Nat → Int32) (mk : Int32) (mr : Nat → Int64) (my : Nat → Int32) (mb : Nat → Int64) (mf : Nat → Int32) (f : Int32 → Int32 → Int32 → (Nat → Int32) → (Nat → Int32) → Option ((Nat → Int32))) : Prop := ∀ (x1 : Int32) (x2 : Int32) (mn : Int32) (ml : Nat → Int32) (mm : Nat → Int32) (r : (Nat → Int32)), f x1 x2 mn ml mm = some r → ∀ (H : Heap) (locs : List Loc) (ls : Array Slot), va_P D classes (wM a k mh mn mc ms ml mm mt mo mk mr my mb mf) H → va_D A (wM a k mh mn mc ms ml mm mt mo mk mr my mb mf) → va_S A s.heap H locs → lv_has ls 3 [(0, .ref (a 20)), (1, .int x1), (2, .int x2)] → W p l e (rm_M_findMates) s m args below meth c H locs 0 0 (MQ below (qc_M_findMates D A a k mh mn mc ms ml mt mo mk mr my mb mf r) args s 0 0 A) (F0 m 14 ls [])
def H_M_findMates_2 (p : Program) (l : Launch) (e : Env) (s : State) (m : MethodId) (args : Array Value) (below : List Frame) (meth : Method) (c : Code) (D : va_G) (A : Nat → Prop) (a : Nat → Nat) (k : Nat → ClassId) (mh : Int32) (mc : Int32) (ms : Nat → Int32) (mt : Nat → Int32) (mo : Nat → Int32) (mk : Int32) (mr : Nat → Int64) (my : Nat → Int32) (mb : Nat → Int64) (mf : Nat → Int32) (f : Int32 → Int32 → (Nat → Int32) → (Nat → Int32) → Option ((Nat → Int32))) : Prop := ∀ (x1 : Int32) (mn : Int32) (ml : Nat → Int32) (mm : Nat → Int32) (r : (Nat → Int32)), f x1 mn ml mm = some r → ∀ (H : Heap) (locs : List Loc) (ls : Array Slot), va_P D classes (wM a k mh mn mc ms ml mm mt mo mk mr my mb mf) H → va_D A (wM a k mh mn mc ms ml mm mt mo mk mr my mb mf) → va_S A s.heap H locs → lv_has ls 3 [(0, .ref (a 20)), (1, .int x1)] → W p l e (rm_M_findMates) s m args below meth c H locs 0 0 (MQ below (qc_M_findMates D A a k mh mn mc ms ml mt mo mk mr my mb mf r) args s 0 0 A) (F0 m 2 ls [])
def H_M_findMates_0 (p : Program) (l : Launch) (e : Env) (s : State) (m : MethodId) (args : Array Value) (below : List Frame) (meth : Method) (c : Code) (D : va_G) (A : Nat → Prop) (a : Nat → Nat) (k : Nat → ClassId) (mh : Int32) (mc : Int32) (ms : Nat → Int32) (mt : Nat → Int32) (mo : Nat → Int32) (mk : Int32) (mr : Nat → Int64) (my : Nat → Int32) (mb : Nat → Int64) (mf : Nat → Int32) (f : Int32 → (Nat → Int32) → (Nat → Int32) → Option ((Nat → Int32))) : Prop := ∀ (mn : Int32) (ml : Nat → Int32) (mm : Nat → Int32) (r : (Nat → Int32)), f mn ml mm = some r → ∀ (H : Heap) (locs : List Loc) (ls : Array Slot), va_P D classes (wM a k mh mn mc ms ml mm mt mo mk mr my mb mf) H → va_D A (wM a k mh mn mc ms ml mm mt mo mk mr my mb mf) → va_S A s.heap H locs → lv_has ls 3 [(0, .ref (a 20))] → W p l e (rm_M_findMates) s m args below meth c H locs 0 0 (MQ below (qc_M_findMates D A a k mh mn mc ms ml mt mo mk mr my mb mf r) args s 0 0 A) (F0 m 0 ls [])
set_option maxHeartbeats 4000000 in
set_option maxRecDepth 100000 in
theorem k_M_findMates_53 {p : Program} {l : Launch} {e : Env} {s : State} {m : MethodId} {args : Array Value} {below : List Frame} {meth : Method} {c : Code} {D : va_G} {A : Nat → Prop} {a : Nat → Nat} {k : Nat → ClassId} {mh : Int32} {mc : Int32} {ms : Nat → Int32} {mt : Nat → Int32} {mo : Nat → Int32} {mk : Int32} {mr : Nat → Int64} {my : Nat → Int32} {mb : Nat → Int64} {mf : Nat → Int32} {rec2 : Int32 → Int32 → (Nat → Int32) → (Nat → Int32) → Option ((Nat → Int32))} {rec14 : Int32 → Int32 → Int32 → (Nat → Int32) → (Nat → Int32) → Option ((Nat → Int32))} (C : cx D [(k 21, .int), (k 22, .int), (k 23, .int), (k 24, .boolean), (k 25, .boolean), (k 26, .long), (k 27, .int), (k 28, .long), (k 29, .int)] R_M b_M_findMates 3 none A p s m args meth c) (hrec2 : H_M_findMates_2 p l e s m args below meth c D A a k mh mc ms mt mo mk mr my mb mf rec2) (hrec14 : H_M_findMates_14 p l e s m args below meth c D A a k mh mc ms mt mo mk mr my mb mf rec14) : H_M_findMates_53 p l e s m args below meth c D A a k mh mc ms mt mo mk mr my mb mf (J_M_findMates_53 rec2 rec14) := by
  obtain ⟨hx, hb, hr, hml, hown, ht, hlk, hA, hK⟩ := id C
  intro x1 x2 y0 mn ml mm r h H locs ls hP hD hS hl
  unfold J_M_findMates_53 at h
  refine lv_aload_n hx hb d_M_findMates_53 rfl (lv_at hl 0 rfl) ?_
  refine va_get (D := D) (ci := 3) (v := .ref (a 23)) (C := R_M) (T := F_M) (N := 13) hx hb ht iC_M hown hK hP 0 rfl rfl 5 (by decide) (ht _ ix_170) (fun _ h9 => h9) rfl d_M_findMates_54 ?_
  refine lv_iload_n hx hb d_M_findMates_57 rfl (lv_at hl 1 rfl) ?_
  obtain ⟨g_1, h⟩ := gd_some h
  refine va_iald hx hb hK hP 3 2 rfl rfl (inb_in g_1) d_M_findMates_58 ?_
  obtain ⟨g_2, h⟩ := gd_some h
  refine va_iast hx hb hK hP hD hS 3 2 rfl rfl (inb_in g_2) d_M_findMates_59 (fun H locs hP hD hS => ?_)
  have hP : va_P D classes (wM a k mh mn mc ms ml (upd mm y0.toNatClampNeg (mm x1.toNatClampNeg)) mt mo mk mr my mb mf) H := hP
  have hD : va_D A (wM a k mh mn mc ms ml (upd mm y0.toNatClampNeg (mm x1.toNatClampNeg)) mt mo mk mr my mb mf) := hD
  refine lv_iinc (v := x2 + 1) (lv' := [(2, .int (x2 + 1)), (0, .ref (a 20)), (1, .int x1)]) hx hb d_M_findMates_60 hl (k := 2) rfl rfl (by decide) rfl (fun ls hl => ?_)
  refine lv_goto (tgt := 14) hx hb d_M_findMates_63 (by decide) ?_
  exact hrec14 _ _ _ _ _ _ h _ _ _ hP hD hS (lv_sub hl [1, 2, 0] rfl)
set_option maxHeartbeats 4000000 in
set_option maxRecDepth 100000 in
theorem k_M_findMates_14 {p : Program} {l : Launch} {e : Env} {s : State} {m : MethodId} {args : Array Value} {below : List Frame} {meth : Method} {c : Code} {D : va_G} {A : Nat → Prop} {a : Nat → Nat} {k : Nat → ClassId} {mh : Int32} {mc : Int32} {ms : Nat → Int32} {mt : Nat → Int32} {mo : Nat → Int32} {mk : Int32} {mr : Nat → Int64} {my : Nat → Int32} {mb : Nat → Int64} {mf : Nat → Int32} {rec2 : Int32 → Int32 → (Nat → Int32) → (Nat → Int32) → Option ((Nat → Int32))} {rec14 : Int32 → Int32 → Int32 → (Nat → Int32) → (Nat → Int32) → Option ((Nat → Int32))} (C : cx D [(k 21, .int), (k 22, .int), (k 23, .int), (k 24, .boolean), (k 25, .boolean), (k 26, .long), (k 27, .int), (k 28, .long), (k 29, .int)] R_M b_M_findMates 3 none A p s m args meth c) (hrec2 : H_M_findMates_2 p l e s m args below meth c D A a k mh mc ms mt mo mk mr my mb mf rec2) (hrec14 : H_M_findMates_14 p l e s m args below meth c D A a k mh mc ms mt mo mk mr my mb mf rec14) : H_M_findMates_14 p l e s m args below meth c D A a k mh mc ms mt mo mk mr my mb mf (J_M_findMates_14 rec2 rec14) := by
  obtain ⟨hx, hb, hr, hml, hown, ht, hlk, hA, hK⟩ := id C
  intro x1 x2 mn ml mm r h H locs ls hP hD hS hl
  unfold J_M_findMates_14 at h
  refine lv_iload_n hx hb d_M_findMates_14 rfl (lv_at hl 2 rfl) ?_
  refine lv_iconst (v := 4) hx hb d_M_findMates_15 (by decide) ?_
  refine lv_aload_n hx hb d_M_findMates_16 rfl (lv_at hl 0 rfl) ?_
  refine va_get (D := D) (ci := 3) (v := .int mn) (C := R_M) (T := F_M) (N := 13) hx hb ht iC_M hown hK hP 0 rfl rfl 1 (by decide) (ht _ ix_163) (fun _ h9 => h9) rfl d_M_findMates_17 ?_
  refine lv_imul hx hb d_M_findMates_20 ?_
  refine lv_icmp_ge (tgt := 66) hx hb d_M_findMates_21 (by decide) (fun c_1 => ?_) (fun c_1 => ?_)
  · have h := ite_T c_1 h
    refine lv_iinc (v := x1 + 1) (lv' := [(1, .int (x1 + 1)), (0, .ref (a 20)), (2, .int x2)]) hx hb d_M_findMates_66 hl (k := 1) rfl rfl (by decide) rfl (fun ls hl => ?_)
    refine lv_goto (tgt := 2) hx hb d_M_findMates_69 (by decide) ?_
    exact hrec2 _ _ _ _ _ h _ _ _ hP hD hS (lv_sub hl [1, 0] rfl)
  · have h := ite_F c_1 h
    refine lv_aload_n hx hb d_M_findMates_24 rfl (lv_at hl 0 rfl) ?_
    refine va_get (D := D) (ci := 3) (v := .ref (a 23)) (C := R_M) (T := F_M) (N := 13) hx hb ht iC_M hown hK hP 0 rfl rfl 5 (by decide) (ht _ ix_170) (fun _ h9 => h9) rfl d_M_findMates_25 ?_
    refine lv_iload_n hx hb d_M_findMates_28 rfl (lv_at hl 1 rfl) ?_
    refine lv_iload_n hx hb d_M_findMates_29 rfl (lv_at hl 1 rfl) ?_
    refine lv_iload_n hx hb d_M_findMates_30 rfl (lv_at hl 2 rfl) ?_
    refine lv_icmp_eq (tgt := 53) hx hb d_M_findMates_31 (by decide) (fun c_2 => ?_) (fun c_2 => ?_)
    · have h := ite_T c_2 h
      exact (k_M_findMates_53 C hrec2 hrec14) _ _ _ _ _ _ _ h _ _ _ hP hD hS (lv_sub hl [0, 1, 2] rfl)
    · have h := ite_F c_2 h
      refine lv_aload_n hx hb d_M_findMates_34 rfl (lv_at hl 0 rfl) ?_
      refine va_get (D := D) (ci := 3) (v := .ref (a 22)) (C := R_M) (T := F_M) (N := 13) hx hb ht iC_M hown hK hP 0 rfl rfl 4 (by decide) (ht _ ix_164) (fun _ h9 => h9) rfl d_M_findMates_35 ?_
      refine lv_iload_n hx hb d_M_findMates_38 rfl (lv_at hl 1 rfl) ?_
      obtain ⟨g_3, h⟩ := gd_some h
      refine va_iald hx hb hK hP 2 1 rfl rfl (inb_in g_3) d_M_findMates_39 ?_
      refine lv_aload_n hx hb d_M_findMates_40 rfl (lv_at hl 0 rfl) ?_
      refine va_get (D := D) (ci := 3) (v := .ref (a 22)) (C := R_M) (T := F_M) (N := 13) hx hb ht iC_M hown hK hP 0 rfl rfl 4 (by decide) (ht _ ix_164) (fun _ h9 => h9) rfl d_M_findMates_41 ?_
      refine lv_iload_n hx hb d_M_findMates_44 rfl (lv_at hl 2 rfl) ?_
      obtain ⟨g_4, h⟩ := gd_some h
      refine va_iald hx hb hK hP 2 1 rfl rfl (inb_in g_4) d_M_findMates_45 ?_
      refine lv_icmp_ne (tgt := 53) hx hb d_M_findMates_46 (by decide) (fun c_5 => ?_) (fun c_5 => ?_)
      · have h := ite_F c_5 h
        exact (k_M_findMates_53 C hrec2 hrec14) _ _ _ _ _ _ _ h _ _ _ hP hD hS (lv_sub hl [0, 1, 2] rfl)
      · have h := ite_T c_5 h
        refine lv_iload_n hx hb d_M_findMates_49 rfl (lv_at hl 2 rfl) ?_
        refine lv_goto (tgt := 59) hx hb d_M_findMates_50 (by decide) ?_
        obtain ⟨g_6, h⟩ := gd_some h
        refine va_iast hx hb hK hP hD hS 3 2 rfl rfl (inb_in g_6) d_M_findMates_59 (fun H locs hP hD hS => ?_)
        have hP : va_P D classes (wM a k mh mn mc ms ml (upd mm x1.toNatClampNeg x2) mt mo mk mr my mb mf) H := hP
        have hD : va_D A (wM a k mh mn mc ms ml (upd mm x1.toNatClampNeg x2) mt mo mk mr my mb mf) := hD
        refine lv_iinc (v := x2 + 1) (lv' := [(2, .int (x2 + 1)), (0, .ref (a 20)), (1, .int x1)]) hx hb d_M_findMates_60 hl (k := 2) rfl rfl (by decide) rfl (fun ls hl => ?_)
        refine lv_goto (tgt := 14) hx hb d_M_findMates_63 (by decide) ?_
        exact hrec14 _ _ _ _ _ _ h _ _ _ hP hD hS (lv_sub hl [1, 2, 0] rfl)
theorem k_M_findMates_14_L {p : Program} {l : Launch} {e : Env} {s : State} {m : MethodId} {args : Array Value} {below : List Frame} {meth : Method} {c : Code} {D : va_G} {A : Nat → Prop} {a : Nat → Nat} {k : Nat → ClassId} {mh : Int32} {mc : Int32} {ms : Nat → Int32} {mt : Nat → Int32} {mo : Nat → Int32} {mk : Int32} {mr : Nat → Int64} {my : Nat → Int32} {mb : Nat → Int64} {mf : Nat → Int32} {rec2 : Int32 → Int32 → (Nat → Int32) → (Nat → Int32) → Option ((Nat → Int32))} (C : cx D [(k 21, .int), (k 22, .int), (k 23, .int), (k 24, .boolean), (k 25, .boolean), (k 26, .long), (k 27, .int), (k 28, .long), (k 29, .int)] R_M b_M_findMates 3 none A p s m args meth c) (hrec2 : H_M_findMates_2 p l e s m args below meth c D A a k mh mc ms mt mo mk mr my mb mf rec2) : ∀ n : Nat, H_M_findMates_14 p l e s m args below meth c D A a k mh mc ms mt mo mk mr my mb mf (L_M_findMates_14 rec2 n)
  | 0 => fun _ _ _ _ _ _ h => nomatch h
  | n + 1 => k_M_findMates_14 C hrec2 (k_M_findMates_14_L C hrec2 n)
set_option maxHeartbeats 4000000 in
set_option maxRecDepth 100000 in
theorem k_M_findMates_2 {p : Program} {l : Launch} {e : Env} {s : State} {m : MethodId} {args : Array Value} {below : List Frame} {meth : Method} {c : Code} {D : va_G} {A : Nat → Prop} {a : Nat → Nat} {k : Nat → ClassId} {mh : Int32} {mc : Int32} {ms : Nat → Int32} {mt : Nat → Int32} {mo : Nat → Int32} {mk : Int32} {mr : Nat → Int64} {my : Nat → Int32} {mb : Nat → Int64} {mf : Nat → Int32} {rec2 : Int32 → Int32 → (Nat → Int32) → (Nat → Int32) → Option ((Nat → Int32))} (C : cx D [(k 21, .int), (k 22, .int), (k 23, .int), (k 24, .boolean), (k 25, .boolean), (k 26, .long), (k 27, .int), (k 28, .long), (k 29, .int)] R_M b_M_findMates 3 none A p s m args meth c) (hrec2 : H_M_findMates_2 p l e s m args below meth c D A a k mh mc ms mt mo mk mr my mb mf rec2) : H_M_findMates_2 p l e s m args below meth c D A a k mh mc ms mt mo mk mr my mb mf (J_M_findMates_2 rec2) := by
  obtain ⟨hx, hb, hr, hml, hown, ht, hlk, hA, hK⟩ := id C
  intro x1 mn ml mm r h H locs ls hP hD hS hl
  unfold J_M_findMates_2 at h
  refine lv_iload_n hx hb d_M_findMates_2 rfl (lv_at hl 1 rfl) ?_
  refine lv_iconst (v := 4) hx hb d_M_findMates_3 (by decide) ?_
  refine lv_aload_n hx hb d_M_findMates_4 rfl (lv_at hl 0 rfl) ?_
  refine va_get (D := D) (ci := 3) (v := .int mn) (C := R_M) (T := F_M) (N := 13) hx hb ht iC_M hown hK hP 0 rfl rfl 1 (by decide) (ht _ ix_163) (fun _ h9 => h9) rfl d_M_findMates_5 ?_
  refine lv_imul hx hb d_M_findMates_8 ?_
  refine lv_icmp_ge (tgt := 72) hx hb d_M_findMates_9 (by decide) (fun c_1 => ?_) (fun c_1 => ?_)
  · have h := ite_T c_1 h
    cases h
    exact W.vret hx hb hr (fun t ht hW => ⟨⟨(), rfl, trivial, by rw [ht]; exact hP, va_K.moved hW.alike hK, hD⟩, hS.F ht⟩) hS.2.2 d_M_findMates_72 hlk
  · have h := ite_F c_1 h
    refine lv_iconst (v := 0) hx hb d_M_findMates_12 (by decide) ?_
    refine lv_istore_n (lv' := [(2, .int (0 : Int32)), (0, .ref (a 20)), (1, .int x1)]) hx hb d_M_findMates_13 rfl hl (by decide) rfl (fun ls hl => ?_)
    exact (k_M_findMates_14_L C hrec2 fu) _ _ _ _ _ _ h _ _ _ hP hD hS (lv_sub hl [1, 2, 0] rfl)
theorem k_M_findMates_2_L {p : Program} {l : Launch} {e : Env} {s : State} {m : MethodId} {args : Array Value} {below : List Frame} {meth : Method} {c : Code} {D : va_G} {A : Nat → Prop} {a : Nat → Nat} {k : Nat → ClassId} {mh : Int32} {mc : Int32} {ms : Nat → Int32} {mt : Nat → Int32} {mo : Nat → Int32} {mk : Int32} {mr : Nat → Int64} {my : Nat → Int32} {mb : Nat → Int64} {mf : Nat → Int32} (C : cx D [(k 21, .int), (k 22, .int), (k 23, .int), (k 24, .boolean), (k 25, .boolean), (k 26, .long), (k 27, .int), (k 28, .long), (k 29, .int)] R_M b_M_findMates 3 none A p s m args meth c) : ∀ n : Nat, H_M_findMates_2 p l e s m args below meth c D A a k mh mc ms mt mo mk mr my mb mf (L_M_findMates_2 n)
  | 0 => fun _ _ _ _ _ h => nomatch h
  | n + 1 => k_M_findMates_2 C (k_M_findMates_2_L C n)
set_option maxHeartbeats 4000000 in
set_option maxRecDepth 100000 in
theorem k_M_findMates_0 {p : Program} {l : Launch} {e : Env} {s : State} {m : MethodId} {args : Array Value} {below : List Frame} {meth : Method} {c : Code} {D : va_G} {A : Nat → Prop} {a : Nat → Nat} {k : Nat → ClassId} {mh : Int32} {mc : Int32} {ms : Nat → Int32} {mt : Nat → Int32} {mo : Nat → Int32} {mk : Int32} {mr : Nat → Int64} {my : Nat → Int32} {mb : Nat → Int64} {mf : Nat → Int32} (C : cx D [(k 21, .int), (k 22, .int), (k 23, .int), (k 24, .boolean), (k 25, .boolean), (k 26, .long), (k 27, .int), (k 28, .long), (k 29, .int)] R_M b_M_findMates 3 none A p s m args meth c) : H_M_findMates_0 p l e s m args below meth c D A a k mh mc ms mt mo mk mr my mb mf (J_M_findMates_0) := by
  obtain ⟨hx, hb, hr, hml, hown, ht, hlk, hA, hK⟩ := id C
  intro mn ml mm r h H locs ls hP hD hS hl
  unfold J_M_findMates_0 at h
  refine lv_iconst (v := 0) hx hb d_M_findMates_0 (by decide) ?_
  refine lv_istore_n (lv' := [(1, .int (0 : Int32)), (0, .ref (a 20))]) hx hb d_M_findMates_1 rfl hl (by decide) rfl (fun ls hl => ?_)
  exact (k_M_findMates_2_L C fu) _ _ _ _ _ h _ _ _ hP hD hS (lv_sub hl [1, 0] rfl)
set_option maxRecDepth 20000 in
theorem c_M_findMates (l : Launch) (D : va_G) (a : Nat → Nat) (k : Nat → ClassId) (sz : Nat) (mh : Int32) (mn : Int32) (mc : Int32) (ms : Nat → Int32) (ml : Nat → Int32) (mm : Nat → Int32) (mt : Nat → Int32) (mo : Nat → Int32) (mk : Int32) (mr : Nat → Int64) (my : Nat → Int32) (mb : Nat → Int64) (mf : Nat → Int32) (r : (Nat → Int32)) (h : F_M_findMates mn ml mm = some r) : Met l y_M_findMates (Cond.code y_M_findMates b_M_findMates 3 none :: lw_g) (rm_M_findMates) (va_Pc [.ref (a 20)] (pcW D [(k 21, .int), (k 22, .int), (k 23, .int), (k 24, .boolean), (k 25, .boolean), (k 26, .long), (k 27, .int), (k 28, .long), (k 29, .int)] (wM a k mh mn mc ms ml mm mt mo mk mr my mb mf) sz)) (qc_M_findMates D (va_A (wM a k mh mn mc ms ml mm mt mo mk mr my mb mf) sz) a k mh mn mc ms ml mt mo mk mr my mb mf r) 0 0 (va_A (wM a k mh mn mc ms ml mm mt mo mk mr my mb mf) sz) := by
  refine Met.ofW (cc := b_M_findMates) (maxL := 3) (ret := none) (by decide) rfl ?_
  intro p e s m args below meth c s₁ B hml hv
  obtain ⟨rfl, hsz, hP, hK, hD0⟩ := hv
  have hts := atoms_spec (ws := Cond.code y_M_findMates b_M_findMates 3 none :: lw_g) B.pre
  subst hsz
  have hD := hD0.self (sz := s.heap.size)
  have hl := lv_entry ([.ref (a 20)]) (n := 3) (Nat.le_of_ble_eq_true rfl)
  rw [lg_entry_eq]
  generalize (lg_sl ([.ref (a 20)]) ++ List.replicate (3 - (lg_sl ([.ref (a 20)])).length) Slot.unset).toArray = ls at hl ⊢
  exact k_M_findMates_0 ⟨B.exec, B.bytes, B.returns, hml, findClass_of_methodNamed B.named, fun w hw => hts w (List.mem_cons_of_mem _ hw), B.notSynchronized, fun q h => Or.inr h, hK⟩ _ _ _ _ h _ _ _ hP hD va_S.rf hl

def rm_M_ways : Room := { frames := 1, cells := 0, slots := 0, locals := 22 }
def qc_M_ways (D : va_G) (A : Nat → Prop) (a : Nat → Nat) (k : Nat → ClassId) (mh : Int32) (mn : Int32) (mc : Int32) (ms : Nat → Int32) (ml : Nat → Int32) (mm : Nat → Int32) (mo : Nat → Int32) (mk : Int32) (mr : Nat → Int64) (my : Nat → Int32) (mb : Nat → Int64) (mf : Nat → Int32) (r : Int32 × (Nat → Int32)) : Array Value → State → Outcome → State → Prop := va_Qi (fun (r1 : Int32) (_ : Unit) => r1 = r.1) (poW D [(k 21, .int), (k 22, .int), (k 23, .int), (k 24, .boolean), (k 25, .boolean), (k 26, .long), (k 27, .int), (k 28, .long), (k 29, .int)] (wM a k mh mn mc ms ml mm r.2 mo mk mr my mb mf) A) A
def J_M_ways_99 (rec32 : Int32 → Int32 → Int32 → Int32 → Int32 → (Nat → Int32) → (Nat → Int32) → Option (Int32 × (Nat → Int32))) (rec62 : Int32 → Int32 → Int32 → Int32 → Int32 → Int32 → (Nat → Int32) → (Nat → Int32) → Option (Int32 × (Nat → Int32))) (x1 : Int32) (x2 : Int32) (x3 : Int32) (y0 : Int32) (y1 : Int32) (mn : Int32) (mc : Int32) (mm : Nat → Int32) (mt : Nat → Int32) : Option (Int32 × (Nat → Int32)) :=
  (Option.bind (F_M_joined y1 y0) (fun v_1 => (if inb v_1 40 then (if inb v_1 40 then rec62 x1 x2 x3 (mm v_1.toNatClampNeg) mn mc mm (upd mt v_1.toNatClampNeg (vp_nar .boolean (1 : Int32))) else none) else none)))
def J_M_ways_62 (rec32 : Int32 → Int32 → Int32 → Int32 → Int32 → (Nat → Int32) → (Nat → Int32) → Option (Int32 × (Nat → Int32))) (rec62 : Int32 → Int32 → Int32 → Int32 → Int32 → Int32 → (Nat → Int32) → (Nat → Int32) → Option (Int32 × (Nat → Int32))) (x1 : Int32) (x2 : Int32) (x3 : Int32) (x4 : Int32) (mn : Int32) (mc : Int32) (mm : Nat → Int32) (mt : Nat → Int32) : Option (Int32 × (Nat → Int32)) :=
  (if inb x4 40 then (if (mt x4.toNatClampNeg) = 0 then (if inb x4 40 then (if ((x1 >>> ((x4 / (4 : Int32)) &&& 31)) &&& (1 : Int32)) = (1 : Int32) then J_M_ways_99 rec32 rec62 x1 x2 x3 (1 : Int32) x4 mn mc mm (upd mt x4.toNatClampNeg (vp_nar .boolean (1 : Int32))) else J_M_ways_99 rec32 rec62 x1 x2 x3 (0 : Int32) x4 mn mc mm (upd mt x4.toNatClampNeg (vp_nar .boolean (1 : Int32)))) else none) else rec32 x1 x2 (x3 + 1) mn mc mm mt) else none)
def L_M_ways_62 (rec32 : Int32 → Int32 → Int32 → Int32 → Int32 → (Nat → Int32) → (Nat → Int32) → Option (Int32 × (Nat → Int32))) : Nat → Int32 → Int32 → Int32 → Int32 → Int32 → Int32 → (Nat → Int32) → (Nat → Int32) → Option (Int32 × (Nat → Int32))
  | 0 => fun _ _ _ _ _ _ _ _ => none
  | n + 1 => J_M_ways_62 rec32 (L_M_ways_62 rec32 n)
def J_M_ways_32 (rec32 : Int32 → Int32 → Int32 → Int32 → Int32 → (Nat → Int32) → (Nat → Int32) → Option (Int32 × (Nat → Int32))) (x1 : Int32) (x2 : Int32) (x3 : Int32) (mn : Int32) (mc : Int32) (mm : Nat → Int32) (mt : Nat → Int32) : Option (Int32 × (Nat → Int32)) :=
  (if ((4 : Int32) * mn) ≤ x3 then some (x2, mt) else (if inb x3 40 then (if (mt x3.toNatClampNeg) = 0 then L_M_ways_62 rec32 fu x1 (x2 + (1 : Int32)) x3 x3 mn mc mm mt else L_M_ways_62 rec32 fu x1 (x2 + (0 : Int32)) x3 x3 mn mc mm mt) else none))
def L_M_ways_32 : Nat → Int32 → Int32 → Int32 → Int32 → Int32 → (Nat → Int32) → (Nat → Int32) → Option (Int32 × (Nat → Int32))
  | 0 => fun _ _ _ _ _ _ _ => none
  | n + 1 => J_M_ways_32 (L_M_ways_32 n)
def J_M_ways_7 (rec7 : Int32 → Int32 → Int32 → Int32 → Int32 → (Nat → Int32) → (Nat → Int32) → Option (Int32 × (Nat → Int32))) (x1 : Int32) (x2 : Int32) (x3 : Int32) (mn : Int32) (mc : Int32) (mm : Nat → Int32) (mt : Nat → Int32) : Option (Int32 × (Nat → Int32)) :=
  (if ((4 : Int32) * mn) ≤ x3 then L_M_ways_32 fu x1 x2 (0 : Int32) mn mc mm mt else (if inb x3 40 then rec7 x1 x2 (x3 + 1) mn mc mm (upd mt x3.toNatClampNeg (vp_nar .boolean (0 : Int32))) else none))
def L_M_ways_7 : Nat → Int32 → Int32 → Int32 → Int32 → Int32 → (Nat → Int32) → (Nat → Int32) → Option (Int32 × (Nat → Int32))
  | 0 => fun _ _ _ _ _ _ _ => none
  | n + 1 => J_M_ways_7 (L_M_ways_7 n)
def J_M_ways_0 (x1 : Int32) (mn : Int32) (mc : Int32) (mm : Nat → Int32) (mt : Nat → Int32) : Option (Int32 × (Nat → Int32)) :=
  L_M_ways_7 fu x1 mc (0 : Int32) mn mc mm mt
def F_M_ways (x1 : Int32) (mn : Int32) (mc : Int32) (mm : Nat → Int32) (mt : Nat → Int32) : Option (Int32 × (Nat → Int32)) := J_M_ways_0 x1 mn mc mm mt
def H_M_ways_99 (p : Program) (l : Launch) (e : Env) (s : State) (m : MethodId) (args : Array Value) (below : List Frame) (meth : Method) (c : Code) (D : va_G) (A : Nat → Prop) (a : Nat → Nat) (k : Nat → ClassId) (mh : Int32) (ms : Nat → Int32) (ml : Nat → Int32) (mo : Nat → Int32) (mk : Int32) (mr : Nat → Int64) (my : Nat → Int32) (mb : Nat → Int64) (mf : Nat → Int32) (f : Int32 → Int32 → Int32 → Int32 → Int32 → Int32 → Int32 → (Nat → Int32) → (Nat → Int32) → Option (Int32 × (Nat → Int32))) : Prop := ∀ (x1 : Int32) (x2 : Int32) (x3 : Int32) (y0 : Int32) (y1 : Int32) (mn : Int32) (mc : Int32) (mm : Nat → Int32) (mt : Nat → Int32) (r : Int32 × (Nat → Int32)), f x1 x2 x3 y0 y1 mn mc mm mt = some r → ∀ (H : Heap) (locs : List Loc) (ls : Array Slot), va_P D classes (wM a k mh mn mc ms ml mm mt mo mk mr my mb mf) H → va_D A (wM a k mh mn mc ms ml mm mt mo mk mr my mb mf) → va_S A s.heap H locs → lv_has ls 6 [(0, .ref (a 20)), (1, .int x1), (2, .int x2), (3, .int x3)] → W p l e (rm_M_ways) s m args below meth c H locs 0 0 (MQ below (qc_M_ways D A a k mh mn mc ms ml mm mo mk mr my mb mf r) args s 0 0 A) (F0 m 99 ls [.int y0, .int y1])
def H_M_ways_62 (p : Program) (l : Launch) (e : Env) (s : State) (m : MethodId) (args : Array Value) (below : List Frame) (meth : Method) (c : Code) (D : va_G) (A : Nat → Prop) (a : Nat → Nat) (k : Nat → ClassId) (mh : Int32) (ms : Nat → Int32) (ml : Nat → Int32) (mo : Nat → Int32) (mk : Int32) (mr : Nat → Int64) (my : Nat → Int32) (mb : Nat → Int64) (mf : Nat → Int32) (f : Int32 → Int32 → Int32 → Int32 → Int32 → Int32 → (Nat → Int32) → (Nat → Int32) → Option (Int32 × (Nat → Int32))) : Prop := ∀ (x1 : Int32) (x2 : Int32) (x3 : Int32) (x4 : Int32) (mn : Int32) (mc : Int32) (mm : Nat → Int32) (mt : Nat → Int32) (r : Int32 × (Nat → Int32)), f x1 x2 x3 x4 mn mc mm mt = some r → ∀ (H : Heap) (locs : List Loc) (ls : Array Slot), va_P D classes (wM a k mh mn mc ms ml mm mt mo mk mr my mb mf) H → va_D A (wM a k mh mn mc ms ml mm mt mo mk mr my mb mf) → va_S A s.heap H locs → lv_has ls 6 [(0, .ref (a 20)), (1, .int x1), (2, .int x2), (3, .int x3), (4, .int x4)] → W p l e (rm_M_ways) s m args below meth c H locs 0 0 (MQ below (qc_M_ways D A a k mh mn mc ms ml mm mo mk mr my mb mf r) args s 0 0 A) (F0 m 62 ls [])
def H_M_ways_32 (p : Program) (l : Launch) (e : Env) (s : State) (m : MethodId) (args : Array Value) (below : List Frame) (meth : Method) (c : Code) (D : va_G) (A : Nat → Prop) (a : Nat → Nat) (k : Nat → ClassId) (mh : Int32) (ms : Nat → Int32) (ml : Nat → Int32) (mo : Nat → Int32) (mk : Int32) (mr : Nat → Int64) (my : Nat → Int32) (mb : Nat → Int64) (mf : Nat → Int32) (f : Int32 → Int32 → Int32 → Int32 → Int32 → (Nat → Int32) → (Nat → Int32) → Option (Int32 × (Nat → Int32))) : Prop := ∀ (x1 : Int32) (x2 : Int32) (x3 : Int32) (mn : Int32) (mc : Int32) (mm : Nat → Int32) (mt : Nat → Int32) (r : Int32 × (Nat → Int32)), f x1 x2 x3 mn mc mm mt = some r → ∀ (H : Heap) (locs : List Loc) (ls : Array Slot), va_P D classes (wM a k mh mn mc ms ml mm mt mo mk mr my mb mf) H → va_D A (wM a k mh mn mc ms ml mm mt mo mk mr my mb mf) → va_S A s.heap H locs → lv_has ls 6 [(0, .ref (a 20)), (1, .int x1), (2, .int x2), (3, .int x3)] → W p l e (rm_M_ways) s m args below meth c H locs 0 0 (MQ below (qc_M_ways D A a k mh mn mc ms ml mm mo mk mr my mb mf r) args s 0 0 A) (F0 m 32 ls [])
def H_M_ways_7 (p : Program) (l : Launch) (e : Env) (s : State) (m : MethodId) (args : Array Value) (below : List Frame) (meth : Method) (c : Code) (D : va_G) (A : Nat → Prop) (a : Nat → Nat) (k : Nat → ClassId) (mh : Int32) (ms : Nat → Int32) (ml : Nat → Int32) (mo : Nat → Int32) (mk : Int32) (mr : Nat → Int64) (my : Nat → Int32) (mb : Nat → Int64) (mf : Nat → Int32) (f : Int32 → Int32 → Int32 → Int32 → Int32 → (Nat → Int32) → (Nat → Int32) → Option (Int32 × (Nat → Int32))) : Prop := ∀ (x1 : Int32) (x2 : Int32) (x3 : Int32) (mn : Int32) (mc : Int32) (mm : Nat → Int32) (mt : Nat → Int32) (r : Int32 × (Nat → Int32)), f x1 x2 x3 mn mc mm mt = some r → ∀ (H : Heap) (locs : List Loc) (ls : Array Slot), va_P D classes (wM a k mh mn mc ms ml mm mt mo mk mr my mb mf) H → va_D A (wM a k mh mn mc ms ml mm mt mo mk mr my mb mf) → va_S A s.heap H locs → lv_has ls 6 [(0, .ref (a 20)), (1, .int x1), (2, .int x2), (3, .int x3)] → W p l e (rm_M_ways) s m args below meth c H locs 0 0 (MQ below (qc_M_ways D A a k mh mn mc ms ml mm mo mk mr my mb mf r) args s 0 0 A) (F0 m 7 ls [])
def H_M_ways_0 (p : Program) (l : Launch) (e : Env) (s : State) (m : MethodId) (args : Array Value) (below : List Frame) (meth : Method) (c : Code) (D : va_G) (A : Nat → Prop) (a : Nat → Nat) (k : Nat → ClassId) (mh : Int32) (ms : Nat → Int32) (ml : Nat → Int32) (mo : Nat → Int32) (mk : Int32) (mr : Nat → Int64) (my : Nat → Int32) (mb : Nat → Int64) (mf : Nat → Int32) (f : Int32 → Int32 → Int32 → (Nat → Int32) → (Nat → Int32) → Option (Int32 × (Nat → Int32))) : Prop := ∀ (x1 : Int32) (mn : Int32) (mc : Int32) (mm : Nat → Int32) (mt : Nat → Int32) (r : Int32 × (Nat → Int32)), f x1 mn mc mm mt = some r → ∀ (H : Heap) (locs : List Loc) (ls : Array Slot), va_P D classes (wM a k mh mn mc ms ml mm mt mo mk mr my mb mf) H → va_D A (wM a k mh mn mc ms ml mm mt mo mk mr my mb mf) → va_S A s.heap H locs → lv_has ls 6 [(0, .ref (a 20)), (1, .int x1)] → W p l e (rm_M_ways) s m args below meth c H locs 0 0 (MQ below (qc_M_ways D A a k mh mn mc ms ml mm mo mk mr my mb mf r) args s 0 0 A) (F0 m 0 ls [])
set_option maxHeartbeats 4000000 in
set_option maxRecDepth 100000 in
theorem k_M_ways_99 {p : Program} {l : Launch} {e : Env} {s : State} {m : MethodId} {args : Array Value} {below : List Frame} {meth : Method} {c : Code} {D : va_G} {A : Nat → Prop} {a : Nat → Nat} {k : Nat → ClassId} {mh : Int32} {ms : Nat → Int32} {ml : Nat → Int32} {mo : Nat → Int32} {mk : Int32} {mr : Nat → Int64} {my : Nat → Int32} {mb : Nat → Int64} {mf : Nat → Int32} {rec32 : Int32 → Int32 → Int32 → Int32 → Int32 → (Nat → Int32) → (Nat → Int32) → Option (Int32 × (Nat → Int32))} {rec62 : Int32 → Int32 → Int32 → Int32 → Int32 → Int32 → (Nat → Int32) → (Nat → Int32) → Option (Int32 × (Nat → Int32))} (C : cx D [(k 21, .int), (k 22, .int), (k 23, .int), (k 24, .boolean), (k 25, .boolean), (k 26, .long), (k 27, .int), (k 28, .long), (k 29, .int)] R_M b_M_ways 6 (some .int) A p s m args meth c) (hrec32 : H_M_ways_32 p l e s m args below meth c D A a k mh ms ml mo mk mr my mb mf rec32) (hrec62 : H_M_ways_62 p l e s m args below meth c D A a k mh ms ml mo mk mr my mb mf rec62) : H_M_ways_99 p l e s m args below meth c D A a k mh ms ml mo mk mr my mb mf (J_M_ways_99 rec32 rec62) := by
  obtain ⟨hx, hb, hr, hml, hown, ht, hlk, hA, hK⟩ := id C
  intro x1 x2 x3 y0 y1 mn mc mm mt r h H locs ls hP hD hS hl
  unfold J_M_ways_99 at h
  obtain ⟨v_1, e_1, h⟩ := bd_some h
  refine go_Si (r := v_1) (As := [.int y1, .int y0]) (rest := []) (wc := (wN a k )) (wr := [((a 20), .inr (3, [.int mh, .int mn, .int mc, .ref (a 21), .ref (a 22), .ref (a 23), .ref (a 24), .ref (a 25), .int mk, .ref (a 26), .ref (a 27), .ref (a 28), .ref (a 29)])), ((a 21), .inl (k 21, 10, .inl ms)), ((a 22), .inl (k 22, 40, .inl ml)), ((a 23), .inl (k 23, 40, .inl mm)), ((a 24), .inl (k 24, 40, .inl mt)), ((a 25), .inl (k 25, 10, .inl mo)), ((a 26), .inl (k 26, 260, .inr (.inl mr))), ((a 27), .inl (k 27, 672, .inl my)), ((a 28), .inl (k 28, 40, .inr (.inl mb))), ((a 29), .inl (k 29, 4, .inl mf))]) (w1 := (wN a k )) (w2 := (wM a k mh mn mc ms ml mm mt mo mk mr my mb mf)) (tc := []) hx hb hml hown ht (c_M_joined l D a k H.size y1 y0 v_1 e_1) g_M_57 ⟨rfl, rfl⟩ (n := 2) (by decide +kernel) ⟨(Nat.le_of_ble_eq_true rfl), (Nat.le_of_ble_eq_true rfl)⟩ hP hD hK hS hA ⟨Nat.zero_le _, Nat.zero_le _⟩ [] [0, 1, 2, 3, 4, 5, 6, 7, 8, 9] [] [0, 1, 2, 3, 4, 5, 6, 7, 8, 9] rfl rfl rfl rfl (by decide) (by decide) (by decide) rfl (by decide) rfl rfl hl.1 (Nat.le_of_ble_eq_true rfl) d_M_ways_99 (fun H locs hP hD hS => ?_)
  refine lv_istore (lv' := [(5, .int v_1), (0, .ref (a 20)), (1, .int x1), (2, .int x2), (3, .int x3)]) hx hb d_M_ways_102 hl (by decide) rfl (fun ls hl => ?_)
  refine lv_aload_n hx hb d_M_ways_104 rfl (lv_at hl 1 rfl) ?_
  refine va_get (D := D) (ci := 3) (v := .ref (a 24)) (C := R_M) (T := F_M) (N := 13) hx hb ht iC_M hown hK hP 0 rfl rfl 6 (by decide) (ht _ ix_172) (fun _ h9 => h9) rfl d_M_ways_105 ?_
  refine lv_iload hx hb d_M_ways_108 (lv_at hl 0 rfl) ?_
  refine lv_iconst (v := 1) hx hb d_M_ways_110 (by decide) ?_
  obtain ⟨g_2, h⟩ := gd_some h
  refine va_zast hx hb hK hP hD hS 4 3 rfl rfl (inb_in g_2) d_M_ways_111 (fun H locs hP hD hS => ?_)
  have hP : va_P D classes (wM a k mh mn mc ms ml mm (upd mt v_1.toNatClampNeg (vp_nar .boolean (1 : Int32))) mo mk mr my mb mf) H := hP
  have hD : va_D A (wM a k mh mn mc ms ml mm (upd mt v_1.toNatClampNeg (vp_nar .boolean (1 : Int32))) mo mk mr my mb mf) := hD
  refine lv_aload_n hx hb d_M_ways_112 rfl (lv_at hl 1 rfl) ?_
  refine va_get (D := D) (ci := 3) (v := .ref (a 23)) (C := R_M) (T := F_M) (N := 13) hx hb ht iC_M hown hK hP 0 rfl rfl 5 (by decide) (ht _ ix_170) (fun _ h9 => h9) rfl d_M_ways_113 ?_
  refine lv_iload hx hb d_M_ways_116 (lv_at hl 0 rfl) ?_
  obtain ⟨g_3, h⟩ := gd_some h
  refine va_iald hx hb hK hP 3 2 rfl rfl (inb_in g_3) d_M_ways_118 ?_
  refine lv_istore (lv' := [(4, .int (mm v_1.toNatClampNeg)), (5, .int v_1), (0, .ref (a 20)), (1, .int x1), (2, .int x2), (3, .int x3)]) hx hb d_M_ways_119 hl (by decide) rfl (fun ls hl => ?_)
  refine lv_goto (tgt := 62) hx hb d_M_ways_121 (by decide) ?_
  exact hrec62 _ _ _ _ _ _ _ _ _ h _ _ _ hP hD hS (lv_sub hl [2, 3, 4, 5, 0] rfl)
set_option maxHeartbeats 4000000 in
set_option maxRecDepth 100000 in
theorem k_M_ways_62 {p : Program} {l : Launch} {e : Env} {s : State} {m : MethodId} {args : Array Value} {below : List Frame} {meth : Method} {c : Code} {D : va_G} {A : Nat → Prop} {a : Nat → Nat} {k : Nat → ClassId} {mh : Int32} {ms : Nat → Int32} {ml : Nat → Int32} {mo : Nat → Int32} {mk : Int32} {mr : Nat → Int64} {my : Nat → Int32} {mb : Nat → Int64} {mf : Nat → Int32} {rec32 : Int32 → Int32 → Int32 → Int32 → Int32 → (Nat → Int32) → (Nat → Int32) → Option (Int32 × (Nat → Int32))} {rec62 : Int32 → Int32 → Int32 → Int32 → Int32 → Int32 → (Nat → Int32) → (Nat → Int32) → Option (Int32 × (Nat → Int32))} (C : cx D [(k 21, .int), (k 22, .int), (k 23, .int), (k 24, .boolean), (k 25, .boolean), (k 26, .long), (k 27, .int), (k 28, .long), (k 29, .int)] R_M b_M_ways 6 (some .int) A p s m args meth c) (hrec32 : H_M_ways_32 p l e s m args below meth c D A a k mh ms ml mo mk mr my mb mf rec32) (hrec62 : H_M_ways_62 p l e s m args below meth c D A a k mh ms ml mo mk mr my mb mf rec62) : H_M_ways_62 p l e s m args below meth c D A a k mh ms ml mo mk mr my mb mf (J_M_ways_62 rec32 rec62) := by
  obtain ⟨hx, hb, hr, hml, hown, ht, hlk, hA, hK⟩ := id C
  intro x1 x2 x3 x4 mn mc mm mt r h H locs ls hP hD hS hl
  unfold J_M_ways_62 at h
  refine lv_aload_n hx hb d_M_ways_62 rfl (lv_at hl 0 rfl) ?_
  refine va_get (D := D) (ci := 3) (v := .ref (a 24)) (C := R_M) (T := F_M) (N := 13) hx hb ht iC_M hown hK hP 0 rfl rfl 6 (by decide) (ht _ ix_172) (fun _ h9 => h9) rfl d_M_ways_63 ?_
  refine lv_iload hx hb d_M_ways_66 (lv_at hl 4 rfl) ?_
  obtain ⟨g_1, h⟩ := gd_some h
  refine va_zald hx hb hK hP 4 3 rfl rfl (inb_in g_1) d_M_ways_68 ?_
  refine lv_if_ne (tgt := 124) hx hb d_M_ways_69 (by decide) (fun c_2 => ?_) (fun c_2 => ?_)
  · have h := ite_F c_2 h
    refine lv_iinc (v := x3 + 1) (lv' := [(3, .int (x3 + 1)), (0, .ref (a 20)), (1, .int x1), (2, .int x2), (4, .int x4)]) hx hb d_M_ways_124 hl (k := 3) rfl rfl (by decide) rfl (fun ls hl => ?_)
    refine lv_goto (tgt := 32) hx hb d_M_ways_127 (by decide) ?_
    exact hrec32 _ _ _ _ _ _ _ _ h _ _ _ hP hD hS (lv_sub hl [1, 2, 3, 0] rfl)
  · have h := ite_T c_2 h
    refine lv_aload_n hx hb d_M_ways_72 rfl (lv_at hl 0 rfl) ?_
    refine va_get (D := D) (ci := 3) (v := .ref (a 24)) (C := R_M) (T := F_M) (N := 13) hx hb ht iC_M hown hK hP 0 rfl rfl 6 (by decide) (ht _ ix_172) (fun _ h9 => h9) rfl d_M_ways_73 ?_
    refine lv_iload hx hb d_M_ways_76 (lv_at hl 4 rfl) ?_
    refine lv_iconst (v := 1) hx hb d_M_ways_78 (by decide) ?_
    obtain ⟨g_3, h⟩ := gd_some h
    refine va_zast hx hb hK hP hD hS 4 3 rfl rfl (inb_in g_3) d_M_ways_79 (fun H locs hP hD hS => ?_)
    have hP : va_P D classes (wM a k mh mn mc ms ml mm (upd mt x4.toNatClampNeg (vp_nar .boolean (1 : Int32))) mo mk mr my mb mf) H := hP
    have hD : va_D A (wM a k mh mn mc ms ml mm (upd mt x4.toNatClampNeg (vp_nar .boolean (1 : Int32))) mo mk mr my mb mf) := hD
    refine lv_iload hx hb d_M_ways_80 (lv_at hl 4 rfl) ?_
    refine lv_iload_n hx hb d_M_ways_82 rfl (lv_at hl 1 rfl) ?_
    refine lv_iload hx hb d_M_ways_83 (lv_at hl 4 rfl) ?_
    refine lv_iconst (v := 4) hx hb d_M_ways_85 (by decide) ?_
    refine lv_idiv hx hb d_M_ways_86 (by decide) ?_
    refine lv_ishr hx hb d_M_ways_87 ?_
    refine lv_iconst (v := 1) hx hb d_M_ways_88 (by decide) ?_
    refine lv_iand hx hb d_M_ways_89 ?_
    refine lv_iconst (v := 1) hx hb d_M_ways_90 (by decide) ?_
    refine lv_icmp_ne (tgt := 98) hx hb d_M_ways_91 (by decide) (fun c_4 => ?_) (fun c_4 => ?_)
    · have h := ite_F c_4 h
      refine lv_iconst (v := 0) hx hb d_M_ways_98 (by decide) ?_
      exact (k_M_ways_99 C hrec32 hrec62) _ _ _ _ _ _ _ _ _ _ h _ _ _ hP hD hS (lv_sub hl [0, 1, 2, 3] rfl)
    · have h := ite_T c_4 h
      refine lv_iconst (v := 1) hx hb d_M_ways_94 (by decide) ?_
      refine lv_goto (tgt := 99) hx hb d_M_ways_95 (by decide) ?_
      exact (k_M_ways_99 C hrec32 hrec62) _ _ _ _ _ _ _ _ _ _ h _ _ _ hP hD hS (lv_sub hl [0, 1, 2, 3] rfl)
theorem k_M_ways_62_L {p : Program} {l : Launch} {e : Env} {s : State} {m : MethodId} {args : Array Value} {below : List Frame} {meth : Method} {c : Code} {D : va_G} {A : Nat → Prop} {a : Nat → Nat} {k : Nat → ClassId} {mh : Int32} {ms : Nat → Int32} {ml : Nat → Int32} {mo : Nat → Int32} {mk : Int32} {mr : Nat → Int64} {my : Nat → Int32} {mb : Nat → Int64} {mf : Nat → Int32} {rec32 : Int32 → Int32 → Int32 → Int32 → Int32 → (Nat → Int32) → (Nat → Int32) → Option (Int32 × (Nat → Int32))} (C : cx D [(k 21, .int), (k 22, .int), (k 23, .int), (k 24, .boolean), (k 25, .boolean), (k 26, .long), (k 27, .int), (k 28, .long), (k 29, .int)] R_M b_M_ways 6 (some .int) A p s m args meth c) (hrec32 : H_M_ways_32 p l e s m args below meth c D A a k mh ms ml mo mk mr my mb mf rec32) : ∀ n : Nat, H_M_ways_62 p l e s m args below meth c D A a k mh ms ml mo mk mr my mb mf (L_M_ways_62 rec32 n)
  | 0 => fun _ _ _ _ _ _ _ _ _ h => nomatch h
  | n + 1 => k_M_ways_62 C hrec32 (k_M_ways_62_L C hrec32 n)
set_option maxHeartbeats 4000000 in
set_option maxRecDepth 100000 in
theorem k_M_ways_32 {p : Program} {l : Launch} {e : Env} {s : State} {m : MethodId} {args : Array Value} {below : List Frame} {meth : Method} {c : Code} {D : va_G} {A : Nat → Prop} {a : Nat → Nat} {k : Nat → ClassId} {mh : Int32} {ms : Nat → Int32} {ml : Nat → Int32} {mo : Nat → Int32} {mk : Int32} {mr : Nat → Int64} {my : Nat → Int32} {mb : Nat → Int64} {mf : Nat → Int32} {rec32 : Int32 → Int32 → Int32 → Int32 → Int32 → (Nat → Int32) → (Nat → Int32) → Option (Int32 × (Nat → Int32))} (C : cx D [(k 21, .int), (k 22, .int), (k 23, .int), (k 24, .boolean), (k 25, .boolean), (k 26, .long), (k 27, .int), (k 28, .long), (k 29, .int)] R_M b_M_ways 6 (some .int) A p s m args meth c) (hrec32 : H_M_ways_32 p l e s m args below meth c D A a k mh ms ml mo mk mr my mb mf rec32) : H_M_ways_32 p l e s m args below meth c D A a k mh ms ml mo mk mr my mb mf (J_M_ways_32 rec32) := by
  obtain ⟨hx, hb, hr, hml, hown, ht, hlk, hA, hK⟩ := id C
  intro x1 x2 x3 mn mc mm mt r h H locs ls hP hD hS hl
  unfold J_M_ways_32 at h
  refine lv_iload_n hx hb d_M_ways_32 rfl (lv_at hl 3 rfl) ?_
  refine lv_iconst (v := 4) hx hb d_M_ways_33 (by decide) ?_
  refine lv_aload_n hx hb d_M_ways_34 rfl (lv_at hl 0 rfl) ?_
  refine va_get (D := D) (ci := 3) (v := .int mn) (C := R_M) (T := F_M) (N := 13) hx hb ht iC_M hown hK hP 0 rfl rfl 1 (by decide) (ht _ ix_163) (fun _ h9 => h9) rfl d_M_ways_35 ?_
  refine lv_imul hx hb d_M_ways_38 ?_
  refine lv_icmp_ge (tgt := 130) hx hb d_M_ways_39 (by decide) (fun c_1 => ?_) (fun c_1 => ?_)
  · have h := ite_T c_1 h
    refine lv_iload_n hx hb d_M_ways_130 rfl (lv_at hl 2 rfl) ?_
    cases h
    exact W.iret hx hb hr (fun t ht hW => ⟨⟨_, (), rfl, rfl, by rw [ht]; exact hP, va_K.moved hW.alike hK, hD⟩, hS.F ht⟩) hS.2.2 d_M_ways_131 hlk
  · have h := ite_F c_1 h
    refine lv_iload_n hx hb d_M_ways_42 rfl (lv_at hl 2 rfl) ?_
    refine lv_aload_n hx hb d_M_ways_43 rfl (lv_at hl 0 rfl) ?_
    refine va_get (D := D) (ci := 3) (v := .ref (a 24)) (C := R_M) (T := F_M) (N := 13) hx hb ht iC_M hown hK hP 0 rfl rfl 6 (by decide) (ht _ ix_172) (fun _ h9 => h9) rfl d_M_ways_44 ?_
    refine lv_iload_n hx hb d_M_ways_47 rfl (lv_at hl 3 rfl) ?_
    obtain ⟨g_2, h⟩ := gd_some h
    refine va_zald hx hb hK hP 4 3 rfl rfl (inb_in g_2) d_M_ways_48 ?_
    refine lv_if_eq (tgt := 56) hx hb d_M_ways_49 (by decide) (fun c_3 => ?_) (fun c_3 => ?_)
    · have h := ite_T c_3 h
      refine lv_iconst (v := 1) hx hb d_M_ways_56 (by decide) ?_
      refine lv_iadd hx hb d_M_ways_57 ?_
      refine lv_istore_n (lv' := [(2, .int (x2 + (1 : Int32))), (0, .ref (a 20)), (1, .int x1), (3, .int x3)]) hx hb d_M_ways_58 rfl hl (by decide) rfl (fun ls hl => ?_)
      refine lv_iload_n hx hb d_M_ways_59 rfl (lv_at hl 3 rfl) ?_
      refine lv_istore (lv' := [(4, .int x3), (2, .int (x2 + (1 : Int32))), (0, .ref (a 20)), (1, .int x1), (3, .int x3)]) hx hb d_M_ways_60 hl (by decide) rfl (fun ls hl => ?_)
      exact (k_M_ways_62_L C hrec32 fu) _ _ _ _ _ _ _ _ _ h _ _ _ hP hD hS (lv_sub hl [2, 3, 1, 4, 0] rfl)
    · have h := ite_F c_3 h
      refine lv_iconst (v := 0) hx hb d_M_ways_52 (by decide) ?_
      refine lv_goto (tgt := 57) hx hb d_M_ways_53 (by decide) ?_
      refine lv_iadd hx hb d_M_ways_57 ?_
      refine lv_istore_n (lv' := [(2, .int (x2 + (0 : Int32))), (0, .ref (a 20)), (1, .int x1), (3, .int x3)]) hx hb d_M_ways_58 rfl hl (by decide) rfl (fun ls hl => ?_)
      refine lv_iload_n hx hb d_M_ways_59 rfl (lv_at hl 3 rfl) ?_
      refine lv_istore (lv' := [(4, .int x3), (2, .int (x2 + (0 : Int32))), (0, .ref (a 20)), (1, .int x1), (3, .int x3)]) hx hb d_M_ways_60 hl (by decide) rfl (fun ls hl => ?_)
      exact (k_M_ways_62_L C hrec32 fu) _ _ _ _ _ _ _ _ _ h _ _ _ hP hD hS (lv_sub hl [2, 3, 1, 4, 0] rfl)
theorem k_M_ways_32_L {p : Program} {l : Launch} {e : Env} {s : State} {m : MethodId} {args : Array Value} {below : List Frame} {meth : Method} {c : Code} {D : va_G} {A : Nat → Prop} {a : Nat → Nat} {k : Nat → ClassId} {mh : Int32} {ms : Nat → Int32} {ml : Nat → Int32} {mo : Nat → Int32} {mk : Int32} {mr : Nat → Int64} {my : Nat → Int32} {mb : Nat → Int64} {mf : Nat → Int32} (C : cx D [(k 21, .int), (k 22, .int), (k 23, .int), (k 24, .boolean), (k 25, .boolean), (k 26, .long), (k 27, .int), (k 28, .long), (k 29, .int)] R_M b_M_ways 6 (some .int) A p s m args meth c) : ∀ n : Nat, H_M_ways_32 p l e s m args below meth c D A a k mh ms ml mo mk mr my mb mf (L_M_ways_32 n)
  | 0 => fun _ _ _ _ _ _ _ _ h => nomatch h
  | n + 1 => k_M_ways_32 C (k_M_ways_32_L C n)
set_option maxHeartbeats 4000000 in
set_option maxRecDepth 100000 in
theorem k_M_ways_7 {p : Program} {l : Launch} {e : Env} {s : State} {m : MethodId} {args : Array Value} {below : List Frame} {meth : Method} {c : Code} {D : va_G} {A : Nat → Prop} {a : Nat → Nat} {k : Nat → ClassId} {mh : Int32} {ms : Nat → Int32} {ml : Nat → Int32} {mo : Nat → Int32} {mk : Int32} {mr : Nat → Int64} {my : Nat → Int32} {mb : Nat → Int64} {mf : Nat → Int32} {rec7 : Int32 → Int32 → Int32 → Int32 → Int32 → (Nat → Int32) → (Nat → Int32) → Option (Int32 × (Nat → Int32))} (C : cx D [(k 21, .int), (k 22, .int), (k 23, .int), (k 24, .boolean), (k 25, .boolean), (k 26, .long), (k 27, .int), (k 28, .long), (k 29, .int)] R_M b_M_ways 6 (some .int) A p s m args meth c) (hrec7 : H_M_ways_7 p l e s m args below meth c D A a k mh ms ml mo mk mr my mb mf rec7) : H_M_ways_7 p l e s m args below meth c D A a k mh ms ml mo mk mr my mb mf (J_M_ways_7 rec7) := by
  obtain ⟨hx, hb, hr, hml, hown, ht, hlk, hA, hK⟩ := id C
  intro x1 x2 x3 mn mc mm mt r h H locs ls hP hD hS hl
  unfold J_M_ways_7 at h
  refine lv_iload_n hx hb d_M_ways_7 rfl (lv_at hl 3 rfl) ?_
  refine lv_iconst (v := 4) hx hb d_M_ways_8 (by decide) ?_
  refine lv_aload_n hx hb d_M_ways_9 rfl (lv_at hl 0 rfl) ?_
  refine va_get (D := D) (ci := 3) (v := .int mn) (C := R_M) (T := F_M) (N := 13) hx hb ht iC_M hown hK hP 0 rfl rfl 1 (by decide) (ht _ ix_163) (fun _ h9 => h9) rfl d_M_ways_10 ?_
  refine lv_imul hx hb d_M_ways_13 ?_
  refine lv_icmp_ge (tgt := 30) hx hb d_M_ways_14 (by decide) (fun c_1 => ?_) (fun c_1 => ?_)
  · have h := ite_T c_1 h
    refine lv_iconst (v := 0) hx hb d_M_ways_30 (by decide) ?_
    refine lv_istore_n (lv' := [(3, .int (0 : Int32)), (0, .ref (a 20)), (1, .int x1), (2, .int x2)]) hx hb d_M_ways_31 rfl hl (by decide) rfl (fun ls hl => ?_)
    exact (k_M_ways_32_L C fu) _ _ _ _ _ _ _ _ h _ _ _ hP hD hS (lv_sub hl [1, 2, 3, 0] rfl)
  · have h := ite_F c_1 h
    refine lv_aload_n hx hb d_M_ways_17 rfl (lv_at hl 0 rfl) ?_
    refine va_get (D := D) (ci := 3) (v := .ref (a 24)) (C := R_M) (T := F_M) (N := 13) hx hb ht iC_M hown hK hP 0 rfl rfl 6 (by decide) (ht _ ix_172) (fun _ h9 => h9) rfl d_M_ways_18 ?_
    refine lv_iload_n hx hb d_M_ways_21 rfl (lv_at hl 3 rfl) ?_
    refine lv_iconst (v := 0) hx hb d_M_ways_22 (by decide) ?_
    obtain ⟨g_2, h⟩ := gd_some h
    refine va_zast hx hb hK hP hD hS 4 3 rfl rfl (inb_in g_2) d_M_ways_23 (fun H locs hP hD hS => ?_)
    have hP : va_P D classes (wM a k mh mn mc ms ml mm (upd mt x3.toNatClampNeg (vp_nar .boolean (0 : Int32))) mo mk mr my mb mf) H := hP
    have hD : va_D A (wM a k mh mn mc ms ml mm (upd mt x3.toNatClampNeg (vp_nar .boolean (0 : Int32))) mo mk mr my mb mf) := hD
    refine lv_iinc (v := x3 + 1) (lv' := [(3, .int (x3 + 1)), (0, .ref (a 20)), (1, .int x1), (2, .int x2)]) hx hb d_M_ways_24 hl (k := 3) rfl rfl (by decide) rfl (fun ls hl => ?_)
    refine lv_goto (tgt := 7) hx hb d_M_ways_27 (by decide) ?_
    exact hrec7 _ _ _ _ _ _ _ _ h _ _ _ hP hD hS (lv_sub hl [1, 2, 3, 0] rfl)
theorem k_M_ways_7_L {p : Program} {l : Launch} {e : Env} {s : State} {m : MethodId} {args : Array Value} {below : List Frame} {meth : Method} {c : Code} {D : va_G} {A : Nat → Prop} {a : Nat → Nat} {k : Nat → ClassId} {mh : Int32} {ms : Nat → Int32} {ml : Nat → Int32} {mo : Nat → Int32} {mk : Int32} {mr : Nat → Int64} {my : Nat → Int32} {mb : Nat → Int64} {mf : Nat → Int32} (C : cx D [(k 21, .int), (k 22, .int), (k 23, .int), (k 24, .boolean), (k 25, .boolean), (k 26, .long), (k 27, .int), (k 28, .long), (k 29, .int)] R_M b_M_ways 6 (some .int) A p s m args meth c) : ∀ n : Nat, H_M_ways_7 p l e s m args below meth c D A a k mh ms ml mo mk mr my mb mf (L_M_ways_7 n)
  | 0 => fun _ _ _ _ _ _ _ _ h => nomatch h
  | n + 1 => k_M_ways_7 C (k_M_ways_7_L C n)
set_option maxHeartbeats 4000000 in
set_option maxRecDepth 100000 in
theorem k_M_ways_0 {p : Program} {l : Launch} {e : Env} {s : State} {m : MethodId} {args : Array Value} {below : List Frame} {meth : Method} {c : Code} {D : va_G} {A : Nat → Prop} {a : Nat → Nat} {k : Nat → ClassId} {mh : Int32} {ms : Nat → Int32} {ml : Nat → Int32} {mo : Nat → Int32} {mk : Int32} {mr : Nat → Int64} {my : Nat → Int32} {mb : Nat → Int64} {mf : Nat → Int32} (C : cx D [(k 21, .int), (k 22, .int), (k 23, .int), (k 24, .boolean), (k 25, .boolean), (k 26, .long), (k 27, .int), (k 28, .long), (k 29, .int)] R_M b_M_ways 6 (some .int) A p s m args meth c) : H_M_ways_0 p l e s m args below meth c D A a k mh ms ml mo mk mr my mb mf (J_M_ways_0) := by
  obtain ⟨hx, hb, hr, hml, hown, ht, hlk, hA, hK⟩ := id C
  intro x1 mn mc mm mt r h H locs ls hP hD hS hl
  unfold J_M_ways_0 at h
  refine lv_aload_n hx hb d_M_ways_0 rfl (lv_at hl 0 rfl) ?_
  refine va_get (D := D) (ci := 3) (v := .int mc) (C := R_M) (T := F_M) (N := 13) hx hb ht iC_M hown hK hP 0 rfl rfl 2 (by decide) (ht _ ix_171) (fun _ h9 => h9) rfl d_M_ways_1 ?_
  refine lv_istore_n (lv' := [(2, .int mc), (0, .ref (a 20)), (1, .int x1)]) hx hb d_M_ways_4 rfl hl (by decide) rfl (fun ls hl => ?_)
  refine lv_iconst (v := 0) hx hb d_M_ways_5 (by decide) ?_
  refine lv_istore_n (lv' := [(3, .int (0 : Int32)), (2, .int mc), (0, .ref (a 20)), (1, .int x1)]) hx hb d_M_ways_6 rfl hl (by decide) rfl (fun ls hl => ?_)
  exact (k_M_ways_7_L C fu) _ _ _ _ _ _ _ _ h _ _ _ hP hD hS (lv_sub hl [2, 3, 1, 0] rfl)
set_option maxRecDepth 20000 in
theorem c_M_ways (l : Launch) (D : va_G) (a : Nat → Nat) (k : Nat → ClassId) (sz : Nat) (x1 : Int32) (mh : Int32) (mn : Int32) (mc : Int32) (ms : Nat → Int32) (ml : Nat → Int32) (mm : Nat → Int32) (mt : Nat → Int32) (mo : Nat → Int32) (mk : Int32) (mr : Nat → Int64) (my : Nat → Int32) (mb : Nat → Int64) (mf : Nat → Int32) (r : Int32 × (Nat → Int32)) (h : F_M_ways x1 mn mc mm mt = some r) : Met l y_M_ways (Cond.code y_M_ways b_M_ways 6 (some .int) :: lw_g) (rm_M_ways) (va_Pc [.ref (a 20), .int x1] (pcW D [(k 21, .int), (k 22, .int), (k 23, .int), (k 24, .boolean), (k 25, .boolean), (k 26, .long), (k 27, .int), (k 28, .long), (k 29, .int)] (wM a k mh mn mc ms ml mm mt mo mk mr my mb mf) sz)) (qc_M_ways D (va_A (wM a k mh mn mc ms ml mm mt mo mk mr my mb mf) sz) a k mh mn mc ms ml mm mo mk mr my mb mf r) 0 0 (va_A (wM a k mh mn mc ms ml mm mt mo mk mr my mb mf) sz) := by
  refine Met.ofW (cc := b_M_ways) (maxL := 6) (ret := (some .int)) (by decide) rfl ?_
  intro p e s m args below meth c s₁ B hml hv
  obtain ⟨rfl, hsz, hP, hK, hD0⟩ := hv
  have hts := atoms_spec (ws := Cond.code y_M_ways b_M_ways 6 (some .int) :: lw_g) B.pre
  subst hsz
  have hD := hD0.self (sz := s.heap.size)
  have hl := lv_entry ([.ref (a 20), .int x1]) (n := 6) (Nat.le_of_ble_eq_true rfl)
  rw [lg_entry_eq]
  generalize (lg_sl ([.ref (a 20), .int x1]) ++ List.replicate (6 - (lg_sl ([.ref (a 20), .int x1])).length) Slot.unset).toArray = ls at hl ⊢
  exact k_M_ways_0 ⟨B.exec, B.bytes, B.returns, hml, findClass_of_methodNamed B.named, fun w hw => hts w (List.mem_cons_of_mem _ hw), B.notSynchronized, fun q h => Or.inr h, hK⟩ _ _ _ _ _ _ h _ _ _ hP hD va_S.rf hl

def rm_M_state : Room := { frames := 2, cells := 0, slots := 0, locals := 47 }
def qc_M_state (D : va_G) (A : Nat → Prop) (a : Nat → Nat) (k : Nat → ClassId) (mh : Int32) (mn : Int32) (mc : Int32) (ms : Nat → Int32) (ml : Nat → Int32) (mo : Nat → Int32) (mk : Int32) (mr : Nat → Int64) (my : Nat → Int32) (mb : Nat → Int64) (mf : Nat → Int32) (r : Int32 × (Nat → Int32) × (Nat → Int32)) : Array Value → State → Outcome → State → Prop := va_Qi (fun (r1 : Int32) (_ : Unit) => r1 = r.1) (poW D [(k 21, .int), (k 22, .int), (k 23, .int), (k 24, .boolean), (k 25, .boolean), (k 26, .long), (k 27, .int), (k 28, .long), (k 29, .int)] (wM a k mh mn mc ms ml r.2.1 r.2.2 mo mk mr my mb mf) A) A
def J_M_state_0 (x1 : Int32) (mn : Int32) (mc : Int32) (ml : Nat → Int32) (mm : Nat → Int32) (mt : Nat → Int32) : Option (Int32 × (Nat → Int32) × (Nat → Int32)) :=
  (Option.bind (F_M_fault mn ml) (fun v_1 => (if 0 < v_1 then some ((-1 : Int32), mm, mt) else (if x1 < 0 then some ((-1 : Int32), mm, mt) else (if x1 < ((1 : Int32) <<< (mn &&& 31)) then (Option.bind (F_M_findMates mn ml mm) (fun v_5 => (Option.bind (F_M_ways x1 mn mc v_5 mt) (fun v_6 => some (v_6.1, v_5, v_6.2))))) else some ((-1 : Int32), mm, mt))))))
def F_M_state (x1 : Int32) (mn : Int32) (mc : Int32) (ml : Nat → Int32) (mm : Nat → Int32) (mt : Nat → Int32) : Option (Int32 × (Nat → Int32) × (Nat → Int32)) := J_M_state_0 x1 mn mc ml mm mt
def H_M_state_0 (p : Program) (l : Launch) (e : Env) (s : State) (m : MethodId) (args : Array Value) (below : List Frame) (meth : Method) (c : Code) (D : va_G) (A : Nat → Prop) (a : Nat → Nat) (k : Nat → ClassId) (mh : Int32) (ms : Nat → Int32) (mo : Nat → Int32) (mk : Int32) (mr : Nat → Int64) (my : Nat → Int32) (mb : Nat → Int64) (mf : Nat → Int32) (f : Int32 → Int32 → Int32 → (Nat → Int32) → (Nat → Int32) → (Nat → Int32) → Option (Int32 × (Nat → Int32) × (Nat → Int32))) : Prop := ∀ (x1 : Int32) (mn : Int32) (mc : Int32) (ml : Nat → Int32) (mm : Nat → Int32) (mt : Nat → Int32) (r : Int32 × (Nat → Int32) × (Nat → Int32)), f x1 mn mc ml mm mt = some r → ∀ (H : Heap) (locs : List Loc) (ls : Array Slot), va_P D classes (wM a k mh mn mc ms ml mm mt mo mk mr my mb mf) H → va_D A (wM a k mh mn mc ms ml mm mt mo mk mr my mb mf) → va_S A s.heap H locs → lv_has ls 2 [(0, .ref (a 20)), (1, .int x1)] → W p l e (rm_M_state) s m args below meth c H locs 0 0 (MQ below (qc_M_state D A a k mh mn mc ms ml mo mk mr my mb mf r) args s 0 0 A) (F0 m 0 ls [])
set_option maxHeartbeats 4000000 in
set_option maxRecDepth 100000 in
theorem k_M_state_0 {p : Program} {l : Launch} {e : Env} {s : State} {m : MethodId} {args : Array Value} {below : List Frame} {meth : Method} {c : Code} {D : va_G} {A : Nat → Prop} {a : Nat → Nat} {k : Nat → ClassId} {mh : Int32} {ms : Nat → Int32} {mo : Nat → Int32} {mk : Int32} {mr : Nat → Int64} {my : Nat → Int32} {mb : Nat → Int64} {mf : Nat → Int32} (C : cx D [(k 21, .int), (k 22, .int), (k 23, .int), (k 24, .boolean), (k 25, .boolean), (k 26, .long), (k 27, .int), (k 28, .long), (k 29, .int)] R_M b_M_state 2 (some .int) A p s m args meth c) : H_M_state_0 p l e s m args below meth c D A a k mh ms mo mk mr my mb mf (J_M_state_0) := by
  obtain ⟨hx, hb, hr, hml, hown, ht, hlk, hA, hK⟩ := id C
  intro x1 mn mc ml mm mt r h H locs ls hP hD hS hl
  unfold J_M_state_0 at h
  refine lv_aload_n hx hb d_M_state_0 rfl (lv_at hl 0 rfl) ?_
  obtain ⟨v_1, e_1, h⟩ := bd_some h
  refine go_Vi (r := v_1) (As := []) (rest := []) (wc := (wM a k mh mn mc ms ml mm mt mo mk mr my mb mf)) (wr := []) (w1 := (wM a k mh mn mc ms ml mm mt mo mk mr my mb mf)) (w2 := (wM a k mh mn mc ms ml mm mt mo mk mr my mb mf)) (tc := [(k 21, .int), (k 22, .int), (k 23, .int), (k 24, .boolean), (k 25, .boolean), (k 26, .long), (k 27, .int), (k 28, .long), (k 29, .int)]) hx hb hml hown ht (c_M_fault l D a k H.size mh mn mc ms ml mm mt mo mk mr my mb mf v_1 e_1) g_M_61 ⟨rfl, rfl⟩ (n := 0) (by decide +kernel) ⟨(Nat.le_of_ble_eq_true rfl), (Nat.le_of_ble_eq_true rfl)⟩ hP hD hK hS hA ⟨Nat.zero_le _, Nat.zero_le _⟩ [0, 1, 2, 3, 4, 5, 6, 7, 8, 9] [] [0, 1, 2, 3, 4, 5, 6, 7, 8] [0, 1, 2, 3, 4, 5, 6, 7, 8, 9] rfl rfl rfl rfl (by decide) (by decide) (by decide) rfl (by decide) 0 rfl rfl rfl rfl rfl hl.1 (Nat.le_of_ble_eq_true rfl) d_M_state_1 (fun H locs hP hD hS => ?_)
  refine lv_if_gt (tgt := 21) hx hb d_M_state_4 (by decide) (fun c_2 => ?_) (fun c_2 => ?_)
  · have h := ite_T c_2 h
    refine lv_iconst (v := (-1)) hx hb d_M_state_21 (by decide) ?_
    cases h
    exact W.iret hx hb hr (fun t ht hW => ⟨⟨_, (), rfl, rfl, by rw [ht]; exact hP, va_K.moved hW.alike hK, hD⟩, hS.F ht⟩) hS.2.2 d_M_state_22 hlk
  · have h := ite_F c_2 h
    refine lv_iload_n hx hb d_M_state_7 rfl (lv_at hl 1 rfl) ?_
    refine lv_if_lt (tgt := 21) hx hb d_M_state_8 (by decide) (fun c_3 => ?_) (fun c_3 => ?_)
    · have h := ite_T c_3 h
      refine lv_iconst (v := (-1)) hx hb d_M_state_21 (by decide) ?_
      cases h
      exact W.iret hx hb hr (fun t ht hW => ⟨⟨_, (), rfl, rfl, by rw [ht]; exact hP, va_K.moved hW.alike hK, hD⟩, hS.F ht⟩) hS.2.2 d_M_state_22 hlk
    · have h := ite_F c_3 h
      refine lv_iload_n hx hb d_M_state_11 rfl (lv_at hl 1 rfl) ?_
      refine lv_iconst (v := 1) hx hb d_M_state_12 (by decide) ?_
      refine lv_aload_n hx hb d_M_state_13 rfl (lv_at hl 0 rfl) ?_
      refine va_get (D := D) (ci := 3) (v := .int mn) (C := R_M) (T := F_M) (N := 13) hx hb ht iC_M hown hK hP 0 rfl rfl 1 (by decide) (ht _ ix_163) (fun _ h9 => h9) rfl d_M_state_14 ?_
      refine lv_ishl hx hb d_M_state_17 ?_
      refine lv_icmp_lt (tgt := 23) hx hb d_M_state_18 (by decide) (fun c_4 => ?_) (fun c_4 => ?_)
      · have h := ite_T c_4 h
        refine lv_aload_n hx hb d_M_state_23 rfl (lv_at hl 0 rfl) ?_
        obtain ⟨v_5, e_5, h⟩ := bd_some h
        refine go_Vv (As := []) (rest := []) (wc := (wM a k mh mn mc ms ml mm mt mo mk mr my mb mf)) (wr := []) (w1 := (wM a k mh mn mc ms ml v_5 mt mo mk mr my mb mf)) (w2 := (wM a k mh mn mc ms ml v_5 mt mo mk mr my mb mf)) (tc := [(k 21, .int), (k 22, .int), (k 23, .int), (k 24, .boolean), (k 25, .boolean), (k 26, .long), (k 27, .int), (k 28, .long), (k 29, .int)]) hx hb hml hown ht (c_M_findMates l D a k H.size mh mn mc ms ml mm mt mo mk mr my mb mf v_5 e_5) g_M_65 ⟨rfl, rfl⟩ (n := 0) (by decide +kernel) ⟨(Nat.le_of_ble_eq_true rfl), (Nat.le_of_ble_eq_true rfl)⟩ hP hD hK hS hA ⟨Nat.zero_le _, Nat.zero_le _⟩ [0, 1, 2, 3, 4, 5, 6, 7, 8, 9] [] [0, 1, 2, 3, 4, 5, 6, 7, 8] [0, 1, 2, 3, 4, 5, 6, 7, 8, 9] rfl rfl rfl rfl (by decide) (by decide) (by decide) rfl (by decide) 0 rfl rfl rfl rfl rfl hl.1 (Nat.le_of_ble_eq_true rfl) d_M_state_24 (fun H locs hP hD hS => ?_)
        refine lv_aload_n hx hb d_M_state_27 rfl (lv_at hl 0 rfl) ?_
        refine lv_iload_n hx hb d_M_state_28 rfl (lv_at hl 1 rfl) ?_
        obtain ⟨v_6, e_6, h⟩ := bd_some h
        refine go_Vi (r := v_6.1) (As := [.int x1]) (rest := []) (wc := (wM a k mh mn mc ms ml v_5 mt mo mk mr my mb mf)) (wr := []) (w1 := (wM a k mh mn mc ms ml v_5 v_6.2 mo mk mr my mb mf)) (w2 := (wM a k mh mn mc ms ml v_5 v_6.2 mo mk mr my mb mf)) (tc := [(k 21, .int), (k 22, .int), (k 23, .int), (k 24, .boolean), (k 25, .boolean), (k 26, .long), (k 27, .int), (k 28, .long), (k 29, .int)]) hx hb hml hown ht (c_M_ways l D a k H.size x1 mh mn mc ms ml v_5 mt mo mk mr my mb mf v_6 e_6) g_M_68 ⟨rfl, rfl⟩ (n := 1) (by decide +kernel) ⟨(Nat.le_of_ble_eq_true rfl), (Nat.le_of_ble_eq_true rfl)⟩ hP hD hK hS hA ⟨Nat.zero_le _, Nat.zero_le _⟩ [0, 1, 2, 3, 4, 5, 6, 7, 8, 9] [] [0, 1, 2, 3, 4, 5, 6, 7, 8] [0, 1, 2, 3, 4, 5, 6, 7, 8, 9] rfl rfl rfl rfl (by decide) (by decide) (by decide) rfl (by decide) 0 rfl rfl rfl rfl rfl hl.1 (Nat.le_of_ble_eq_true rfl) d_M_state_29 (fun H locs hP hD hS => ?_)
        cases h
        exact W.iret hx hb hr (fun t ht hW => ⟨⟨_, (), rfl, rfl, by rw [ht]; exact hP, va_K.moved hW.alike hK, hD⟩, hS.F ht⟩) hS.2.2 d_M_state_32 hlk
      · have h := ite_F c_4 h
        refine lv_iconst (v := (-1)) hx hb d_M_state_21 (by decide) ?_
        cases h
        exact W.iret hx hb hr (fun t ht hW => ⟨⟨_, (), rfl, rfl, by rw [ht]; exact hP, va_K.moved hW.alike hK, hD⟩, hS.F ht⟩) hS.2.2 d_M_state_22 hlk
set_option maxRecDepth 20000 in
theorem c_M_state (l : Launch) (D : va_G) (a : Nat → Nat) (k : Nat → ClassId) (sz : Nat) (x1 : Int32) (mh : Int32) (mn : Int32) (mc : Int32) (ms : Nat → Int32) (ml : Nat → Int32) (mm : Nat → Int32) (mt : Nat → Int32) (mo : Nat → Int32) (mk : Int32) (mr : Nat → Int64) (my : Nat → Int32) (mb : Nat → Int64) (mf : Nat → Int32) (r : Int32 × (Nat → Int32) × (Nat → Int32)) (h : F_M_state x1 mn mc ml mm mt = some r) : Met l y_M_state (Cond.code y_M_state b_M_state 2 (some .int) :: lw_g) (rm_M_state) (va_Pc [.ref (a 20), .int x1] (pcW D [(k 21, .int), (k 22, .int), (k 23, .int), (k 24, .boolean), (k 25, .boolean), (k 26, .long), (k 27, .int), (k 28, .long), (k 29, .int)] (wM a k mh mn mc ms ml mm mt mo mk mr my mb mf) sz)) (qc_M_state D (va_A (wM a k mh mn mc ms ml mm mt mo mk mr my mb mf) sz) a k mh mn mc ms ml mo mk mr my mb mf r) 0 0 (va_A (wM a k mh mn mc ms ml mm mt mo mk mr my mb mf) sz) := by
  refine Met.ofW (cc := b_M_state) (maxL := 2) (ret := (some .int)) (by decide) rfl ?_
  intro p e s m args below meth c s₁ B hml hv
  obtain ⟨rfl, hsz, hP, hK, hD0⟩ := hv
  have hts := atoms_spec (ws := Cond.code y_M_state b_M_state 2 (some .int) :: lw_g) B.pre
  subst hsz
  have hD := hD0.self (sz := s.heap.size)
  have hl := lv_entry ([.ref (a 20), .int x1]) (n := 2) (Nat.le_of_ble_eq_true rfl)
  rw [lg_entry_eq]
  generalize (lg_sl ([.ref (a 20), .int x1]) ++ List.replicate (2 - (lg_sl ([.ref (a 20), .int x1])).length) Slot.unset).toArray = ls at hl ⊢
  exact k_M_state_0 ⟨B.exec, B.bytes, B.returns, hml, findClass_of_methodNamed B.named, fun w hw => hts w (List.mem_cons_of_mem _ hw), B.notSynchronized, fun q h => Or.inr h, hK⟩ _ _ _ _ _ _ _ h _ _ _ hP hD va_S.rf hl
