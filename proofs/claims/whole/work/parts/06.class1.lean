def rm_B_isLabel : Room := { frames := 0, cells := 0, slots := 0, locals := 0 }
def qc_B_isLabel (D : va_G) (A : Nat → Prop) (a : Nat → Nat) (k : Nat → ClassId) (r : Int32) : Array Value → State → Outcome → State → Prop := va_Qi (fun (r1 : Int32) (_ : Unit) => r1 = r) (poW D [] (wN a k ) A) A
def J_B_isLabel_0 (x0 : Int32) : Option (Int32) :=
  (if x0 < (1 : Int32) then some ((0 : Int32)) else (if (99 : Int32) < x0 then some ((0 : Int32)) else some ((1 : Int32))))
def F_B_isLabel (x0 : Int32) : Option (Int32) := J_B_isLabel_0 x0
def H_B_isLabel_0 (p : Program) (l : Launch) (e : Env) (s : State) (m : MethodId) (args : Array Value) (below : List Frame) (meth : Method) (c : Code) (D : va_G) (A : Nat → Prop) (a : Nat → Nat) (k : Nat → ClassId) (f : Int32 → Option (Int32)) : Prop := ∀ (x0 : Int32) (r : Int32), f x0 = some r → ∀ (H : Heap) (locs : List Loc) (ls : Array Slot), va_P D classes (wN a k ) H → va_D A (wN a k ) → va_S A s.heap H locs → lv_has ls 1 [(0, .int x0)] → W p l e (rm_B_isLabel) s m args below meth c H locs 0 0 (MQ below (qc_B_isLabel D A a k r) args s 0 0 A) (F0 m 0 ls [])
set_option maxHeartbeats 4000000 in
set_option maxRecDepth 100000 in
theorem k_B_isLabel_0 {p : Program} {l : Launch} {e : Env} {s : State} {m : MethodId} {args : Array Value} {below : List Frame} {meth : Method} {c : Code} {D : va_G} {A : Nat → Prop} {a : Nat → Nat} {k : Nat → ClassId} (C : cx D [] R_B b_B_isLabel 1 (some .boolean) A p s m args meth c) : H_B_isLabel_0 p l e s m args below meth c D A a k (J_B_isLabel_0) := by
  obtain ⟨hx, hb, hr, hml, hown, ht, hlk, hA, hK⟩ := id C
  intro x0 r h H locs ls hP hD hS hl
  unfold J_B_isLabel_0 at h
  refine lv_iload_n hx hb d_B_isLabel_0 rfl (lv_at hl 0 rfl) ?_
  refine lv_iconst (v := 1) hx hb d_B_isLabel_1 (by decide) ?_
  refine lv_icmp_lt (tgt := 15) hx hb d_B_isLabel_2 (by decide) (fun c_1 => ?_) (fun c_1 => ?_)
  · have h := ite_T c_1 h
    refine lv_iconst (v := 0) hx hb d_B_isLabel_15 (by decide) ?_
    cases h
    exact W.zret hx hb hr rfl (fun t ht hW => ⟨⟨_, (), rfl, rfl, by rw [ht]; exact hP, va_K.moved hW.alike hK, hD⟩, hS.F ht⟩) hS.2.2 d_B_isLabel_16 hlk
  · have h := ite_F c_1 h
    refine lv_iload_n hx hb d_B_isLabel_5 rfl (lv_at hl 0 rfl) ?_
    refine lv_bipush (v := 99) hx hb d_B_isLabel_6 (by decide) ?_
    refine lv_icmp_gt (tgt := 15) hx hb d_B_isLabel_8 (by decide) (fun c_2 => ?_) (fun c_2 => ?_)
    · have h := ite_T c_2 h
      refine lv_iconst (v := 0) hx hb d_B_isLabel_15 (by decide) ?_
      cases h
      exact W.zret hx hb hr rfl (fun t ht hW => ⟨⟨_, (), rfl, rfl, by rw [ht]; exact hP, va_K.moved hW.alike hK, hD⟩, hS.F ht⟩) hS.2.2 d_B_isLabel_16 hlk
    · have h := ite_F c_2 h
      refine lv_iconst (v := 1) hx hb d_B_isLabel_11 (by decide) ?_
      refine lv_goto (tgt := 16) hx hb d_B_isLabel_12 (by decide) ?_
      cases h
      exact W.zret hx hb hr rfl (fun t ht hW => ⟨⟨_, (), rfl, rfl, by rw [ht]; exact hP, va_K.moved hW.alike hK, hD⟩, hS.F ht⟩) hS.2.2 d_B_isLabel_16 hlk
set_option maxRecDepth 20000 in
theorem c_B_isLabel (l : Launch) (D : va_G) (a : Nat → Nat) (k : Nat → ClassId) (sz : Nat) (x0 : Int32) (r : Int32) (h : F_B_isLabel x0 = some r) : Met l y_B_isLabel (Cond.code y_B_isLabel b_B_isLabel 1 (some .boolean) :: lw_g) (rm_B_isLabel) (va_Pc [.int x0] (pcW D [] (wN a k ) sz)) (qc_B_isLabel D (va_A (wN a k ) sz) a k r) 0 0 (va_A (wN a k ) sz) := by
  refine Met.ofW (cc := b_B_isLabel) (maxL := 1) (ret := (some .boolean)) (by decide) rfl ?_
  intro p e s m args below meth c s₁ B hml hv
  obtain ⟨rfl, hsz, hP, hK, hD0⟩ := hv
  have hts := atoms_spec (ws := Cond.code y_B_isLabel b_B_isLabel 1 (some .boolean) :: lw_g) B.pre
  subst hsz
  have hD := hD0.self (sz := s.heap.size)
  have hl := lv_entry ([.int x0]) (n := 1) (Nat.le_of_ble_eq_true rfl)
  rw [lg_entry_eq]
  generalize (lg_sl ([.int x0]) ++ List.replicate (1 - (lg_sl ([.int x0])).length) Slot.unset).toArray = ls at hl ⊢
  exact k_B_isLabel_0 ⟨B.exec, B.bytes, B.returns, hml, findClass_of_methodNamed B.named, fun w hw => hts w (List.mem_cons_of_mem _ hw), B.notSynchronized, fun q h => Or.inr h, hK⟩ _ _ h _ _ _ hP hD va_S.rf hl

def rm_B_renamed : Room := { frames := 1, cells := 0, slots := 0, locals := 14 }
def qc_B_renamed (D : va_G) (A : Nat → Prop) (a : Nat → Nat) (k : Nat → ClassId) (r : Int32) : Array Value → State → Outcome → State → Prop := va_Qi (fun (r1 : Int32) (_ : Unit) => r1 = r) (poW D [] (wN a k ) A) A
def J_B_renamed_0 (x0 : Int32) (x1 : Int32) (x2 : Int32) : Option (Int32) :=
  (if x0 = (if x1 < x2 then x2 else x1) then some ((if x2 < x1 then x2 else x1)) else some (x0))
def F_B_renamed (x0 : Int32) (x1 : Int32) (x2 : Int32) : Option (Int32) := J_B_renamed_0 x0 x1 x2
def H_B_renamed_0 (p : Program) (l : Launch) (e : Env) (s : State) (m : MethodId) (args : Array Value) (below : List Frame) (meth : Method) (c : Code) (D : va_G) (A : Nat → Prop) (a : Nat → Nat) (k : Nat → ClassId) (f : Int32 → Int32 → Int32 → Option (Int32)) : Prop := ∀ (x0 : Int32) (x1 : Int32) (x2 : Int32) (r : Int32), f x0 x1 x2 = some r → ∀ (H : Heap) (locs : List Loc) (ls : Array Slot), va_P D classes (wN a k ) H → va_D A (wN a k ) → va_S A s.heap H locs → lv_has ls 3 [(0, .int x0), (1, .int x1), (2, .int x2)] → W p l e (rm_B_renamed) s m args below meth c H locs 0 0 (MQ below (qc_B_renamed D A a k r) args s 0 0 A) (F0 m 0 ls [])
set_option maxHeartbeats 4000000 in
set_option maxRecDepth 100000 in
theorem k_B_renamed_0 {p : Program} {l : Launch} {e : Env} {s : State} {m : MethodId} {args : Array Value} {below : List Frame} {meth : Method} {c : Code} {D : va_G} {A : Nat → Prop} {a : Nat → Nat} {k : Nat → ClassId} (C : cx D [] R_B b_B_renamed 3 (some .int) A p s m args meth c) : H_B_renamed_0 p l e s m args below meth c D A a k (J_B_renamed_0) := by
  obtain ⟨hx, hb, hr, hml, hown, ht, hlk, hA, hK⟩ := id C
  intro x0 x1 x2 r h H locs ls hP hD hS hl
  unfold J_B_renamed_0 at h
  refine lv_iload_n hx hb d_B_renamed_0 rfl (lv_at hl 0 rfl) ?_
  refine lv_iload_n hx hb d_B_renamed_1 rfl (lv_at hl 1 rfl) ?_
  refine lv_iload_n hx hb d_B_renamed_2 rfl (lv_at hl 2 rfl) ?_
  refine va_mmax hx hb (by rw [hml]; exact hl.1.symm) hown (ht _ ix_0) (ht _ ix_1) (ht _ ix_2) (ht _ ix_3) (Nat.le_of_ble_eq_true rfl) (Nat.le_of_ble_eq_true rfl) (Nat.zero_le _) (Nat.zero_le _) d_B_renamed_3 ?_
  refine lv_icmp_ne (tgt := 17) hx hb d_B_renamed_6 (by decide) (fun c_1 => ?_) (fun c_1 => ?_)
  · have h := ite_F c_1 h
    refine lv_iload_n hx hb d_B_renamed_17 rfl (lv_at hl 0 rfl) ?_
    cases h
    exact W.iret hx hb hr (fun t ht hW => ⟨⟨_, (), rfl, rfl, by rw [ht]; exact hP, va_K.moved hW.alike hK, hD⟩, hS.F ht⟩) hS.2.2 d_B_renamed_18 hlk
  · have h := ite_T c_1 h
    refine lv_iload_n hx hb d_B_renamed_9 rfl (lv_at hl 1 rfl) ?_
    refine lv_iload_n hx hb d_B_renamed_10 rfl (lv_at hl 2 rfl) ?_
    refine va_mmin hx hb (by rw [hml]; exact hl.1.symm) hown (ht _ ix_4) (ht _ ix_5) (ht _ ix_2) (ht _ ix_6) (Nat.le_of_ble_eq_true rfl) (Nat.le_of_ble_eq_true rfl) (Nat.zero_le _) (Nat.zero_le _) d_B_renamed_11 ?_
    refine lv_goto (tgt := 18) hx hb d_B_renamed_14 (by decide) ?_
    cases h
    exact W.iret hx hb hr (fun t ht hW => ⟨⟨_, (), rfl, rfl, by rw [ht]; exact hP, va_K.moved hW.alike hK, hD⟩, hS.F ht⟩) hS.2.2 d_B_renamed_18 hlk
set_option maxRecDepth 20000 in
theorem c_B_renamed (l : Launch) (D : va_G) (a : Nat → Nat) (k : Nat → ClassId) (sz : Nat) (x0 : Int32) (x1 : Int32) (x2 : Int32) (r : Int32) (h : F_B_renamed x0 x1 x2 = some r) : Met l y_B_renamed (Cond.code y_B_renamed b_B_renamed 3 (some .int) :: lw_g) (rm_B_renamed) (va_Pc [.int x0, .int x1, .int x2] (pcW D [] (wN a k ) sz)) (qc_B_renamed D (va_A (wN a k ) sz) a k r) 0 0 (va_A (wN a k ) sz) := by
  refine Met.ofW (cc := b_B_renamed) (maxL := 3) (ret := (some .int)) (by decide) rfl ?_
  intro p e s m args below meth c s₁ B hml hv
  obtain ⟨rfl, hsz, hP, hK, hD0⟩ := hv
  have hts := atoms_spec (ws := Cond.code y_B_renamed b_B_renamed 3 (some .int) :: lw_g) B.pre
  subst hsz
  have hD := hD0.self (sz := s.heap.size)
  have hl := lv_entry ([.int x0, .int x1, .int x2]) (n := 3) (Nat.le_of_ble_eq_true rfl)
  rw [lg_entry_eq]
  generalize (lg_sl ([.int x0, .int x1, .int x2]) ++ List.replicate (3 - (lg_sl ([.int x0, .int x1, .int x2])).length) Slot.unset).toArray = ls at hl ⊢
  exact k_B_renamed_0 ⟨B.exec, B.bytes, B.returns, hml, findClass_of_methodNamed B.named, fun w hw => hts w (List.mem_cons_of_mem _ hw), B.notSynchronized, fun q h => Or.inr h, hK⟩ _ _ _ _ h _ _ _ hP hD va_S.rf hl

def rm_W_join : Room := { frames := 0, cells := 0, slots := 0, locals := 0 }
def qc_W_join (D : va_G) (A : Nat → Prop) (a : Nat → Nat) (k : Nat → ClassId) (fp : Nat → Int32) (r : Int32 × (Nat → Int32)) : Array Value → State → Outcome → State → Prop := va_Qi (fun (r1 : Int32) (_ : Unit) => r1 = r.1) (poW D [(k 8, .int), (k 9, .int)] (wW a k r.2 fp) A) A
def J_W_join_0 (x1 : Int32) (x2 : Int32) (oe : Nat → Int32) : Option (Int32 × (Nat → Int32)) :=
  (if inb x1 40 then (if (oe x1.toNatClampNeg) = x2 then some ((1 : Int32), oe) else (if inb x1 40 then (if inb x2 40 then (if inb (oe x1.toNatClampNeg) 40 then (if inb (oe x2.toNatClampNeg) 40 then some ((0 : Int32), (upd (upd oe (oe x1.toNatClampNeg).toNatClampNeg (oe x2.toNatClampNeg)) (oe x2.toNatClampNeg).toNatClampNeg (oe x1.toNatClampNeg))) else none) else none) else none) else none)) else none)
def F_W_join (x1 : Int32) (x2 : Int32) (oe : Nat → Int32) : Option (Int32 × (Nat → Int32)) := J_W_join_0 x1 x2 oe
def H_W_join_0 (p : Program) (l : Launch) (e : Env) (s : State) (m : MethodId) (args : Array Value) (below : List Frame) (meth : Method) (c : Code) (D : va_G) (A : Nat → Prop) (a : Nat → Nat) (k : Nat → ClassId) (fp : Nat → Int32) (f : Int32 → Int32 → (Nat → Int32) → Option (Int32 × (Nat → Int32))) : Prop := ∀ (x1 : Int32) (x2 : Int32) (oe : Nat → Int32) (r : Int32 × (Nat → Int32)), f x1 x2 oe = some r → ∀ (H : Heap) (locs : List Loc) (ls : Array Slot), va_P D classes (wW a k oe fp) H → va_D A (wW a k oe fp) → va_S A s.heap H locs → lv_has ls 5 [(0, .ref (a 7)), (1, .int x1), (2, .int x2)] → W p l e (rm_W_join) s m args below meth c H locs 0 0 (MQ below (qc_W_join D A a k fp r) args s 0 0 A) (F0 m 0 ls [])
set_option maxHeartbeats 4000000 in
set_option maxRecDepth 100000 in
theorem k_W_join_0 {p : Program} {l : Launch} {e : Env} {s : State} {m : MethodId} {args : Array Value} {below : List Frame} {meth : Method} {c : Code} {D : va_G} {A : Nat → Prop} {a : Nat → Nat} {k : Nat → ClassId} {fp : Nat → Int32} (C : cx D [(k 8, .int), (k 9, .int)] R_W b_W_join 5 (some .int) A p s m args meth c) : H_W_join_0 p l e s m args below meth c D A a k fp (J_W_join_0) := by
  obtain ⟨hx, hb, hr, hml, hown, ht, hlk, hA, hK⟩ := id C
  intro x1 x2 oe r h H locs ls hP hD hS hl
  unfold J_W_join_0 at h
  refine lv_aload_n hx hb d_W_join_0 rfl (lv_at hl 0 rfl) ?_
  refine va_get (D := D) (ci := 1) (v := .ref (a 8)) (C := R_W) (T := F_W) (N := 2) hx hb ht iC_W hown hK hP 0 rfl rfl 0 (by decide) (ht _ ix_7) (fun _ h9 => h9) rfl d_W_join_1 ?_
  refine lv_iload_n hx hb d_W_join_4 rfl (lv_at hl 1 rfl) ?_
  obtain ⟨g_1, h⟩ := gd_some h
  refine va_iald hx hb hK hP 1 0 rfl rfl (inb_in g_1) d_W_join_5 ?_
  refine lv_iload_n hx hb d_W_join_6 rfl (lv_at hl 2 rfl) ?_
  refine lv_icmp_ne (tgt := 12) hx hb d_W_join_7 (by decide) (fun c_2 => ?_) (fun c_2 => ?_)
  · have h := ite_F c_2 h
    refine lv_aload_n hx hb d_W_join_12 rfl (lv_at hl 0 rfl) ?_
    refine va_get (D := D) (ci := 1) (v := .ref (a 8)) (C := R_W) (T := F_W) (N := 2) hx hb ht iC_W hown hK hP 0 rfl rfl 0 (by decide) (ht _ ix_7) (fun _ h9 => h9) rfl d_W_join_13 ?_
    refine lv_iload_n hx hb d_W_join_16 rfl (lv_at hl 1 rfl) ?_
    obtain ⟨g_3, h⟩ := gd_some h
    refine va_iald hx hb hK hP 1 0 rfl rfl (inb_in g_3) d_W_join_17 ?_
    refine lv_istore_n (lv' := [(3, .int (oe x1.toNatClampNeg)), (0, .ref (a 7)), (1, .int x1), (2, .int x2)]) hx hb d_W_join_18 rfl hl (by decide) rfl (fun ls hl => ?_)
    refine lv_aload_n hx hb d_W_join_19 rfl (lv_at hl 1 rfl) ?_
    refine va_get (D := D) (ci := 1) (v := .ref (a 8)) (C := R_W) (T := F_W) (N := 2) hx hb ht iC_W hown hK hP 0 rfl rfl 0 (by decide) (ht _ ix_7) (fun _ h9 => h9) rfl d_W_join_20 ?_
    refine lv_iload_n hx hb d_W_join_23 rfl (lv_at hl 3 rfl) ?_
    obtain ⟨g_4, h⟩ := gd_some h
    refine va_iald hx hb hK hP 1 0 rfl rfl (inb_in g_4) d_W_join_24 ?_
    refine lv_istore (lv' := [(4, .int (oe x2.toNatClampNeg)), (3, .int (oe x1.toNatClampNeg)), (0, .ref (a 7)), (1, .int x1), (2, .int x2)]) hx hb d_W_join_25 hl (by decide) rfl (fun ls hl => ?_)
    refine lv_aload_n hx hb d_W_join_27 rfl (lv_at hl 2 rfl) ?_
    refine va_get (D := D) (ci := 1) (v := .ref (a 8)) (C := R_W) (T := F_W) (N := 2) hx hb ht iC_W hown hK hP 0 rfl rfl 0 (by decide) (ht _ ix_7) (fun _ h9 => h9) rfl d_W_join_28 ?_
    refine lv_iload_n hx hb d_W_join_31 rfl (lv_at hl 1 rfl) ?_
    refine lv_iload hx hb d_W_join_32 (lv_at hl 0 rfl) ?_
    obtain ⟨g_5, h⟩ := gd_some h
    refine va_iast hx hb hK hP hD hS 1 0 rfl rfl (inb_in g_5) d_W_join_34 (fun H locs hP hD hS => ?_)
    have hP : va_P D classes (wW a k (upd oe (oe x1.toNatClampNeg).toNatClampNeg (oe x2.toNatClampNeg)) fp) H := hP
    have hD : va_D A (wW a k (upd oe (oe x1.toNatClampNeg).toNatClampNeg (oe x2.toNatClampNeg)) fp) := hD
    refine lv_aload_n hx hb d_W_join_35 rfl (lv_at hl 2 rfl) ?_
    refine va_get (D := D) (ci := 1) (v := .ref (a 8)) (C := R_W) (T := F_W) (N := 2) hx hb ht iC_W hown hK hP 0 rfl rfl 0 (by decide) (ht _ ix_7) (fun _ h9 => h9) rfl d_W_join_36 ?_
    refine lv_iload hx hb d_W_join_39 (lv_at hl 0 rfl) ?_
    refine lv_iload_n hx hb d_W_join_41 rfl (lv_at hl 1 rfl) ?_
    obtain ⟨g_6, h⟩ := gd_some h
    refine va_iast hx hb hK hP hD hS 1 0 rfl rfl (inb_in g_6) d_W_join_42 (fun H locs hP hD hS => ?_)
    have hP : va_P D classes (wW a k (upd (upd oe (oe x1.toNatClampNeg).toNatClampNeg (oe x2.toNatClampNeg)) (oe x2.toNatClampNeg).toNatClampNeg (oe x1.toNatClampNeg)) fp) H := hP
    have hD : va_D A (wW a k (upd (upd oe (oe x1.toNatClampNeg).toNatClampNeg (oe x2.toNatClampNeg)) (oe x2.toNatClampNeg).toNatClampNeg (oe x1.toNatClampNeg)) fp) := hD
    refine lv_iconst (v := 0) hx hb d_W_join_43 (by decide) ?_
    cases h
    exact W.iret hx hb hr (fun t ht hW => ⟨⟨_, (), rfl, rfl, by rw [ht]; exact hP, va_K.moved hW.alike hK, hD⟩, hS.F ht⟩) hS.2.2 d_W_join_44 hlk
  · have h := ite_T c_2 h
    refine lv_iconst (v := 1) hx hb d_W_join_10 (by decide) ?_
    cases h
    exact W.iret hx hb hr (fun t ht hW => ⟨⟨_, (), rfl, rfl, by rw [ht]; exact hP, va_K.moved hW.alike hK, hD⟩, hS.F ht⟩) hS.2.2 d_W_join_11 hlk
set_option maxRecDepth 20000 in
theorem c_W_join (l : Launch) (D : va_G) (a : Nat → Nat) (k : Nat → ClassId) (sz : Nat) (x1 : Int32) (x2 : Int32) (oe : Nat → Int32) (fp : Nat → Int32) (r : Int32 × (Nat → Int32)) (h : F_W_join x1 x2 oe = some r) : Met l y_W_join (Cond.code y_W_join b_W_join 5 (some .int) :: lw_g) (rm_W_join) (va_Pc [.ref (a 7), .int x1, .int x2] (pcW D [(k 8, .int), (k 9, .int)] (wW a k oe fp) sz)) (qc_W_join D (va_A (wW a k oe fp) sz) a k fp r) 0 0 (va_A (wW a k oe fp) sz) := by
  refine Met.ofW (cc := b_W_join) (maxL := 5) (ret := (some .int)) (by decide) rfl ?_
  intro p e s m args below meth c s₁ B hml hv
  obtain ⟨rfl, hsz, hP, hK, hD0⟩ := hv
  have hts := atoms_spec (ws := Cond.code y_W_join b_W_join 5 (some .int) :: lw_g) B.pre
  subst hsz
  have hD := hD0.self (sz := s.heap.size)
  have hl := lv_entry ([.ref (a 7), .int x1, .int x2]) (n := 5) (Nat.le_of_ble_eq_true rfl)
  rw [lg_entry_eq]
  generalize (lg_sl ([.ref (a 7), .int x1, .int x2]) ++ List.replicate (5 - (lg_sl ([.ref (a 7), .int x1, .int x2])).length) Slot.unset).toArray = ls at hl ⊢
  exact k_W_join_0 ⟨B.exec, B.bytes, B.returns, hml, findClass_of_methodNamed B.named, fun w hw => hts w (List.mem_cons_of_mem _ hw), B.notSynchronized, fun q h => Or.inr h, hK⟩ _ _ _ _ h _ _ _ hP hD va_S.rf hl

def rm_W_part : Room := { frames := 0, cells := 0, slots := 0, locals := 0 }
def qc_W_part (D : va_G) (A : Nat → Prop) (a : Nat → Nat) (k : Nat → ClassId) (fp : Nat → Int32) (r : (Nat → Int32)) : Array Value → State → Outcome → State → Prop := va_Qv (fun (_ : Unit) => True) (poW D [(k 8, .int), (k 9, .int)] (wW a k r fp) A) A
def J_W_part_0 (x1 : Int32) (x2 : Int32) (oe : Nat → Int32) : Option ((Nat → Int32)) :=
  (if inb x1 40 then (if inb (oe x1.toNatClampNeg) 40 then (if inb x2 40 then (if inb ((upd oe (oe x1.toNatClampNeg).toNatClampNeg x1) x2.toNatClampNeg) 40 then some ((upd (upd oe (oe x1.toNatClampNeg).toNatClampNeg x1) ((upd oe (oe x1.toNatClampNeg).toNatClampNeg x1) x2.toNatClampNeg).toNatClampNeg x2)) else none) else none) else none) else none)
def F_W_part (x1 : Int32) (x2 : Int32) (oe : Nat → Int32) : Option ((Nat → Int32)) := J_W_part_0 x1 x2 oe
def H_W_part_0 (p : Program) (l : Launch) (e : Env) (s : State) (m : MethodId) (args : Array Value) (below : List Frame) (meth : Method) (c : Code) (D : va_G) (A : Nat → Prop) (a : Nat → Nat) (k : Nat → ClassId) (fp : Nat → Int32) (f : Int32 → Int32 → (Nat → Int32) → Option ((Nat → Int32))) : Prop := ∀ (x1 : Int32) (x2 : Int32) (oe : Nat → Int32) (r : (Nat → Int32)), f x1 x2 oe = some r → ∀ (H : Heap) (locs : List Loc) (ls : Array Slot), va_P D classes (wW a k oe fp) H → va_D A (wW a k oe fp) → va_S A s.heap H locs → lv_has ls 3 [(0, .ref (a 7)), (1, .int x1), (2, .int x2)] → W p l e (rm_W_part) s m args below meth c H locs 0 0 (MQ below (qc_W_part D A a k fp r) args s 0 0 A) (F0 m 0 ls [])
set_option maxHeartbeats 4000000 in
set_option maxRecDepth 100000 in
theorem k_W_part_0 {p : Program} {l : Launch} {e : Env} {s : State} {m : MethodId} {args : Array Value} {below : List Frame} {meth : Method} {c : Code} {D : va_G} {A : Nat → Prop} {a : Nat → Nat} {k : Nat → ClassId} {fp : Nat → Int32} (C : cx D [(k 8, .int), (k 9, .int)] R_W b_W_part 3 none A p s m args meth c) : H_W_part_0 p l e s m args below meth c D A a k fp (J_W_part_0) := by
  obtain ⟨hx, hb, hr, hml, hown, ht, hlk, hA, hK⟩ := id C
  intro x1 x2 oe r h H locs ls hP hD hS hl
  unfold J_W_part_0 at h
  refine lv_aload_n hx hb d_W_part_0 rfl (lv_at hl 0 rfl) ?_
  refine va_get (D := D) (ci := 1) (v := .ref (a 8)) (C := R_W) (T := F_W) (N := 2) hx hb ht iC_W hown hK hP 0 rfl rfl 0 (by decide) (ht _ ix_7) (fun _ h9 => h9) rfl d_W_part_1 ?_
  refine lv_aload_n hx hb d_W_part_4 rfl (lv_at hl 0 rfl) ?_
  refine va_get (D := D) (ci := 1) (v := .ref (a 8)) (C := R_W) (T := F_W) (N := 2) hx hb ht iC_W hown hK hP 0 rfl rfl 0 (by decide) (ht _ ix_7) (fun _ h9 => h9) rfl d_W_part_5 ?_
  refine lv_iload_n hx hb d_W_part_8 rfl (lv_at hl 1 rfl) ?_
  obtain ⟨g_1, h⟩ := gd_some h
  refine va_iald hx hb hK hP 1 0 rfl rfl (inb_in g_1) d_W_part_9 ?_
  refine lv_iload_n hx hb d_W_part_10 rfl (lv_at hl 1 rfl) ?_
  obtain ⟨g_2, h⟩ := gd_some h
  refine va_iast hx hb hK hP hD hS 1 0 rfl rfl (inb_in g_2) d_W_part_11 (fun H locs hP hD hS => ?_)
  have hP : va_P D classes (wW a k (upd oe (oe x1.toNatClampNeg).toNatClampNeg x1) fp) H := hP
  have hD : va_D A (wW a k (upd oe (oe x1.toNatClampNeg).toNatClampNeg x1) fp) := hD
  refine lv_aload_n hx hb d_W_part_12 rfl (lv_at hl 0 rfl) ?_
  refine va_get (D := D) (ci := 1) (v := .ref (a 8)) (C := R_W) (T := F_W) (N := 2) hx hb ht iC_W hown hK hP 0 rfl rfl 0 (by decide) (ht _ ix_7) (fun _ h9 => h9) rfl d_W_part_13 ?_
  refine lv_aload_n hx hb d_W_part_16 rfl (lv_at hl 0 rfl) ?_
  refine va_get (D := D) (ci := 1) (v := .ref (a 8)) (C := R_W) (T := F_W) (N := 2) hx hb ht iC_W hown hK hP 0 rfl rfl 0 (by decide) (ht _ ix_7) (fun _ h9 => h9) rfl d_W_part_17 ?_
  refine lv_iload_n hx hb d_W_part_20 rfl (lv_at hl 2 rfl) ?_
  obtain ⟨g_3, h⟩ := gd_some h
  refine va_iald hx hb hK hP 1 0 rfl rfl (inb_in g_3) d_W_part_21 ?_
  refine lv_iload_n hx hb d_W_part_22 rfl (lv_at hl 2 rfl) ?_
  obtain ⟨g_4, h⟩ := gd_some h
  refine va_iast hx hb hK hP hD hS 1 0 rfl rfl (inb_in g_4) d_W_part_23 (fun H locs hP hD hS => ?_)
  have hP : va_P D classes (wW a k (upd (upd oe (oe x1.toNatClampNeg).toNatClampNeg x1) ((upd oe (oe x1.toNatClampNeg).toNatClampNeg x1) x2.toNatClampNeg).toNatClampNeg x2) fp) H := hP
  have hD : va_D A (wW a k (upd (upd oe (oe x1.toNatClampNeg).toNatClampNeg x1) ((upd oe (oe x1.toNatClampNeg).toNatClampNeg x1) x2.toNatClampNeg).toNatClampNeg x2) fp) := hD
  cases h
  exact W.vret hx hb hr (fun t ht hW => ⟨⟨(), rfl, trivial, by rw [ht]; exact hP, va_K.moved hW.alike hK, hD⟩, hS.F ht⟩) hS.2.2 d_W_part_24 hlk
set_option maxRecDepth 20000 in
theorem c_W_part (l : Launch) (D : va_G) (a : Nat → Nat) (k : Nat → ClassId) (sz : Nat) (x1 : Int32) (x2 : Int32) (oe : Nat → Int32) (fp : Nat → Int32) (r : (Nat → Int32)) (h : F_W_part x1 x2 oe = some r) : Met l y_W_part (Cond.code y_W_part b_W_part 3 none :: lw_g) (rm_W_part) (va_Pc [.ref (a 7), .int x1, .int x2] (pcW D [(k 8, .int), (k 9, .int)] (wW a k oe fp) sz)) (qc_W_part D (va_A (wW a k oe fp) sz) a k fp r) 0 0 (va_A (wW a k oe fp) sz) := by
  refine Met.ofW (cc := b_W_part) (maxL := 3) (ret := none) (by decide) rfl ?_
  intro p e s m args below meth c s₁ B hml hv
  obtain ⟨rfl, hsz, hP, hK, hD0⟩ := hv
  have hts := atoms_spec (ws := Cond.code y_W_part b_W_part 3 none :: lw_g) B.pre
  subst hsz
  have hD := hD0.self (sz := s.heap.size)
  have hl := lv_entry ([.ref (a 7), .int x1, .int x2]) (n := 3) (Nat.le_of_ble_eq_true rfl)
  rw [lg_entry_eq]
  generalize (lg_sl ([.ref (a 7), .int x1, .int x2]) ++ List.replicate (3 - (lg_sl ([.ref (a 7), .int x1, .int x2])).length) Slot.unset).toArray = ls at hl ⊢
  exact k_W_part_0 ⟨B.exec, B.bytes, B.returns, hml, findClass_of_methodNamed B.named, fun w hw => hts w (List.mem_cons_of_mem _ hw), B.notSynchronized, fun q h => Or.inr h, hK⟩ _ _ _ _ h _ _ _ hP hD va_S.rf hl

def rm_W_smooth : Room := { frames := 1, cells := 0, slots := 0, locals := 24 }
def qc_W_smooth (D : va_G) (A : Nat → Prop) (a : Nat → Nat) (k : Nat → ClassId) (fp : Nat → Int32) (r : Int32 × (Nat → Int32)) : Array Value → State → Outcome → State → Prop := va_Qi (fun (r1 : Int32) (_ : Unit) => r1 = r.1) (poW D [(k 8, .int), (k 9, .int)] (wW a k r.2 fp) A) A
def J_W_smooth_0 (x1 : Int32) (x2 : Int32) (oe : Nat → Int32) : Option (Int32 × (Nat → Int32)) :=
  (if x2 = 0 then (Option.bind (F_W_join (((4 : Int32) * x1) + (1 : Int32)) (((4 : Int32) * x1) + (2 : Int32)) oe) (fun v_2 => (Option.bind (F_W_join (((4 : Int32) * x1) + (3 : Int32)) ((4 : Int32) * x1) v_2.2) (fun v_3 => some ((v_2.1 + v_3.1), v_3.2))))) else (Option.bind (F_W_join ((4 : Int32) * x1) (((4 : Int32) * x1) + (1 : Int32)) oe) (fun v_4 => (Option.bind (F_W_join (((4 : Int32) * x1) + (2 : Int32)) (((4 : Int32) * x1) + (3 : Int32)) v_4.2) (fun v_5 => some ((v_4.1 + v_5.1), v_5.2))))))
def F_W_smooth (x1 : Int32) (x2 : Int32) (oe : Nat → Int32) : Option (Int32 × (Nat → Int32)) := J_W_smooth_0 x1 x2 oe
def H_W_smooth_0 (p : Program) (l : Launch) (e : Env) (s : State) (m : MethodId) (args : Array Value) (below : List Frame) (meth : Method) (c : Code) (D : va_G) (A : Nat → Prop) (a : Nat → Nat) (k : Nat → ClassId) (fp : Nat → Int32) (f : Int32 → Int32 → (Nat → Int32) → Option (Int32 × (Nat → Int32))) : Prop := ∀ (x1 : Int32) (x2 : Int32) (oe : Nat → Int32) (r : Int32 × (Nat → Int32)), f x1 x2 oe = some r → ∀ (H : Heap) (locs : List Loc) (ls : Array Slot), va_P D classes (wW a k oe fp) H → va_D A (wW a k oe fp) → va_S A s.heap H locs → lv_has ls 4 [(0, .ref (a 7)), (1, .int x1), (2, .int x2)] → W p l e (rm_W_smooth) s m args below meth c H locs 0 0 (MQ below (qc_W_smooth D A a k fp r) args s 0 0 A) (F0 m 0 ls [])
set_option maxHeartbeats 4000000 in
set_option maxRecDepth 100000 in
theorem k_W_smooth_0 {p : Program} {l : Launch} {e : Env} {s : State} {m : MethodId} {args : Array Value} {below : List Frame} {meth : Method} {c : Code} {D : va_G} {A : Nat → Prop} {a : Nat → Nat} {k : Nat → ClassId} {fp : Nat → Int32} (C : cx D [(k 8, .int), (k 9, .int)] R_W b_W_smooth 4 (some .int) A p s m args meth c) : H_W_smooth_0 p l e s m args below meth c D A a k fp (J_W_smooth_0) := by
  obtain ⟨hx, hb, hr, hml, hown, ht, hlk, hA, hK⟩ := id C
  intro x1 x2 oe r h H locs ls hP hD hS hl
  unfold J_W_smooth_0 at h
  refine lv_iconst (v := 4) hx hb d_W_smooth_0 (by decide) ?_
  refine lv_iload_n hx hb d_W_smooth_1 rfl (lv_at hl 1 rfl) ?_
  refine lv_imul hx hb d_W_smooth_2 ?_
  refine lv_istore_n (lv' := [(3, .int ((4 : Int32) * x1)), (0, .ref (a 7)), (1, .int x1), (2, .int x2)]) hx hb d_W_smooth_3 rfl hl (by decide) rfl (fun ls hl => ?_)
  refine lv_iload_n hx hb d_W_smooth_4 rfl (lv_at hl 3 rfl) ?_
  refine lv_if_eq (tgt := 28) hx hb d_W_smooth_5 (by decide) (fun c_1 => ?_) (fun c_1 => ?_)
  · have h := ite_T c_1 h
    refine lv_aload_n hx hb d_W_smooth_28 rfl (lv_at hl 1 rfl) ?_
    refine lv_iload_n hx hb d_W_smooth_29 rfl (lv_at hl 0 rfl) ?_
    refine lv_iconst (v := 1) hx hb d_W_smooth_30 (by decide) ?_
    refine lv_iadd hx hb d_W_smooth_31 ?_
    refine lv_iload_n hx hb d_W_smooth_32 rfl (lv_at hl 0 rfl) ?_
    refine lv_iconst (v := 2) hx hb d_W_smooth_33 (by decide) ?_
    refine lv_iadd hx hb d_W_smooth_34 ?_
    obtain ⟨v_2, e_2, h⟩ := bd_some h
    refine go_Vi (r := v_2.1) (As := [.int (((4 : Int32) * x1) + (1 : Int32)), .int (((4 : Int32) * x1) + (2 : Int32))]) (rest := []) (wc := (wW a k oe fp)) (wr := []) (w1 := (wW a k v_2.2 fp)) (w2 := (wW a k v_2.2 fp)) (tc := [(k 8, .int), (k 9, .int)]) hx hb hml hown ht (c_W_join l D a k H.size (((4 : Int32) * x1) + (1 : Int32)) (((4 : Int32) * x1) + (2 : Int32)) oe fp v_2 e_2) g_W_24 ⟨rfl, rfl⟩ (n := 2) (by decide +kernel) ⟨(Nat.le_of_ble_eq_true rfl), (Nat.le_of_ble_eq_true rfl)⟩ hP hD hK hS hA ⟨Nat.zero_le _, Nat.zero_le _⟩ [0, 1, 2] [] [0, 1] [0, 1, 2] rfl rfl rfl rfl (by decide) (by decide) (by decide) rfl (by decide) 0 rfl rfl rfl rfl rfl hl.1 (Nat.le_of_ble_eq_true rfl) d_W_smooth_35 (fun H locs hP hD hS => ?_)
    refine lv_aload_n hx hb d_W_smooth_38 rfl (lv_at hl 1 rfl) ?_
    refine lv_iload_n hx hb d_W_smooth_39 rfl (lv_at hl 0 rfl) ?_
    refine lv_iconst (v := 3) hx hb d_W_smooth_40 (by decide) ?_
    refine lv_iadd hx hb d_W_smooth_41 ?_
    refine lv_iload_n hx hb d_W_smooth_42 rfl (lv_at hl 0 rfl) ?_
    obtain ⟨v_3, e_3, h⟩ := bd_some h
    refine go_Vi (r := v_3.1) (As := [.int (((4 : Int32) * x1) + (3 : Int32)), .int ((4 : Int32) * x1)]) (rest := [.int v_2.1]) (wc := (wW a k v_2.2 fp)) (wr := []) (w1 := (wW a k v_3.2 fp)) (w2 := (wW a k v_3.2 fp)) (tc := [(k 8, .int), (k 9, .int)]) hx hb hml hown ht (c_W_join l D a k H.size (((4 : Int32) * x1) + (3 : Int32)) ((4 : Int32) * x1) v_2.2 fp v_3 e_3) g_W_24 ⟨rfl, rfl⟩ (n := 2) (by decide +kernel) ⟨(Nat.le_of_ble_eq_true rfl), (Nat.le_of_ble_eq_true rfl)⟩ hP hD hK hS hA ⟨Nat.zero_le _, Nat.zero_le _⟩ [0, 1, 2] [] [0, 1] [0, 1, 2] rfl rfl rfl rfl (by decide) (by decide) (by decide) rfl (by decide) 0 rfl rfl rfl rfl rfl hl.1 (Nat.le_of_ble_eq_true rfl) d_W_smooth_43 (fun H locs hP hD hS => ?_)
    refine lv_iadd hx hb d_W_smooth_46 ?_
    cases h
    exact W.iret hx hb hr (fun t ht hW => ⟨⟨_, (), rfl, rfl, by rw [ht]; exact hP, va_K.moved hW.alike hK, hD⟩, hS.F ht⟩) hS.2.2 d_W_smooth_47 hlk
  · have h := ite_F c_1 h
    refine lv_aload_n hx hb d_W_smooth_8 rfl (lv_at hl 1 rfl) ?_
    refine lv_iload_n hx hb d_W_smooth_9 rfl (lv_at hl 0 rfl) ?_
    refine lv_iload_n hx hb d_W_smooth_10 rfl (lv_at hl 0 rfl) ?_
    refine lv_iconst (v := 1) hx hb d_W_smooth_11 (by decide) ?_
    refine lv_iadd hx hb d_W_smooth_12 ?_
    obtain ⟨v_4, e_4, h⟩ := bd_some h
    refine go_Vi (r := v_4.1) (As := [.int ((4 : Int32) * x1), .int (((4 : Int32) * x1) + (1 : Int32))]) (rest := []) (wc := (wW a k oe fp)) (wr := []) (w1 := (wW a k v_4.2 fp)) (w2 := (wW a k v_4.2 fp)) (tc := [(k 8, .int), (k 9, .int)]) hx hb hml hown ht (c_W_join l D a k H.size ((4 : Int32) * x1) (((4 : Int32) * x1) + (1 : Int32)) oe fp v_4 e_4) g_W_24 ⟨rfl, rfl⟩ (n := 2) (by decide +kernel) ⟨(Nat.le_of_ble_eq_true rfl), (Nat.le_of_ble_eq_true rfl)⟩ hP hD hK hS hA ⟨Nat.zero_le _, Nat.zero_le _⟩ [0, 1, 2] [] [0, 1] [0, 1, 2] rfl rfl rfl rfl (by decide) (by decide) (by decide) rfl (by decide) 0 rfl rfl rfl rfl rfl hl.1 (Nat.le_of_ble_eq_true rfl) d_W_smooth_13 (fun H locs hP hD hS => ?_)
    refine lv_aload_n hx hb d_W_smooth_16 rfl (lv_at hl 1 rfl) ?_
    refine lv_iload_n hx hb d_W_smooth_17 rfl (lv_at hl 0 rfl) ?_
    refine lv_iconst (v := 2) hx hb d_W_smooth_18 (by decide) ?_
    refine lv_iadd hx hb d_W_smooth_19 ?_
    refine lv_iload_n hx hb d_W_smooth_20 rfl (lv_at hl 0 rfl) ?_
    refine lv_iconst (v := 3) hx hb d_W_smooth_21 (by decide) ?_
    refine lv_iadd hx hb d_W_smooth_22 ?_
    obtain ⟨v_5, e_5, h⟩ := bd_some h
    refine go_Vi (r := v_5.1) (As := [.int (((4 : Int32) * x1) + (2 : Int32)), .int (((4 : Int32) * x1) + (3 : Int32))]) (rest := [.int v_4.1]) (wc := (wW a k v_4.2 fp)) (wr := []) (w1 := (wW a k v_5.2 fp)) (w2 := (wW a k v_5.2 fp)) (tc := [(k 8, .int), (k 9, .int)]) hx hb hml hown ht (c_W_join l D a k H.size (((4 : Int32) * x1) + (2 : Int32)) (((4 : Int32) * x1) + (3 : Int32)) v_4.2 fp v_5 e_5) g_W_24 ⟨rfl, rfl⟩ (n := 2) (by decide +kernel) ⟨(Nat.le_of_ble_eq_true rfl), (Nat.le_of_ble_eq_true rfl)⟩ hP hD hK hS hA ⟨Nat.zero_le _, Nat.zero_le _⟩ [0, 1, 2] [] [0, 1] [0, 1, 2] rfl rfl rfl rfl (by decide) (by decide) (by decide) rfl (by decide) 0 rfl rfl rfl rfl rfl hl.1 (Nat.le_of_ble_eq_true rfl) d_W_smooth_23 (fun H locs hP hD hS => ?_)
    refine lv_iadd hx hb d_W_smooth_26 ?_
    cases h
    exact W.iret hx hb hr (fun t ht hW => ⟨⟨_, (), rfl, rfl, by rw [ht]; exact hP, va_K.moved hW.alike hK, hD⟩, hS.F ht⟩) hS.2.2 d_W_smooth_27 hlk
set_option maxRecDepth 20000 in
theorem c_W_smooth (l : Launch) (D : va_G) (a : Nat → Nat) (k : Nat → ClassId) (sz : Nat) (x1 : Int32) (x2 : Int32) (oe : Nat → Int32) (fp : Nat → Int32) (r : Int32 × (Nat → Int32)) (h : F_W_smooth x1 x2 oe = some r) : Met l y_W_smooth (Cond.code y_W_smooth b_W_smooth 4 (some .int) :: lw_g) (rm_W_smooth) (va_Pc [.ref (a 7), .int x1, .int x2] (pcW D [(k 8, .int), (k 9, .int)] (wW a k oe fp) sz)) (qc_W_smooth D (va_A (wW a k oe fp) sz) a k fp r) 0 0 (va_A (wW a k oe fp) sz) := by
  refine Met.ofW (cc := b_W_smooth) (maxL := 4) (ret := (some .int)) (by decide) rfl ?_
  intro p e s m args below meth c s₁ B hml hv
  obtain ⟨rfl, hsz, hP, hK, hD0⟩ := hv
  have hts := atoms_spec (ws := Cond.code y_W_smooth b_W_smooth 4 (some .int) :: lw_g) B.pre
  subst hsz
  have hD := hD0.self (sz := s.heap.size)
  have hl := lv_entry ([.ref (a 7), .int x1, .int x2]) (n := 4) (Nat.le_of_ble_eq_true rfl)
  rw [lg_entry_eq]
  generalize (lg_sl ([.ref (a 7), .int x1, .int x2]) ++ List.replicate (4 - (lg_sl ([.ref (a 7), .int x1, .int x2])).length) Slot.unset).toArray = ls at hl ⊢
  exact k_W_smooth_0 ⟨B.exec, B.bytes, B.returns, hml, findClass_of_methodNamed B.named, fun w hw => hts w (List.mem_cons_of_mem _ hw), B.notSynchronized, fun q h => Or.inr h, hK⟩ _ _ _ _ h _ _ _ hP hD va_S.rf hl

def rm_W_undo : Room := { frames := 1, cells := 0, slots := 0, locals := 22 }
def qc_W_undo (D : va_G) (A : Nat → Prop) (a : Nat → Nat) (k : Nat → ClassId) (fp : Nat → Int32) (r : (Nat → Int32)) : Array Value → State → Outcome → State → Prop := va_Qv (fun (_ : Unit) => True) (poW D [(k 8, .int), (k 9, .int)] (wW a k r fp) A) A
def J_W_undo_0 (x1 : Int32) (x2 : Int32) (oe : Nat → Int32) : Option ((Nat → Int32)) :=
  (if x2 = 0 then (Option.bind (F_W_part (((4 : Int32) * x1) + (3 : Int32)) ((4 : Int32) * x1) oe) (fun v_2 => (Option.bind (F_W_part (((4 : Int32) * x1) + (1 : Int32)) (((4 : Int32) * x1) + (2 : Int32)) v_2) (fun v_3 => some (v_3))))) else (Option.bind (F_W_part (((4 : Int32) * x1) + (2 : Int32)) (((4 : Int32) * x1) + (3 : Int32)) oe) (fun v_4 => (Option.bind (F_W_part ((4 : Int32) * x1) (((4 : Int32) * x1) + (1 : Int32)) v_4) (fun v_5 => some (v_5))))))
def F_W_undo (x1 : Int32) (x2 : Int32) (oe : Nat → Int32) : Option ((Nat → Int32)) := J_W_undo_0 x1 x2 oe
def H_W_undo_0 (p : Program) (l : Launch) (e : Env) (s : State) (m : MethodId) (args : Array Value) (below : List Frame) (meth : Method) (c : Code) (D : va_G) (A : Nat → Prop) (a : Nat → Nat) (k : Nat → ClassId) (fp : Nat → Int32) (f : Int32 → Int32 → (Nat → Int32) → Option ((Nat → Int32))) : Prop := ∀ (x1 : Int32) (x2 : Int32) (oe : Nat → Int32) (r : (Nat → Int32)), f x1 x2 oe = some r → ∀ (H : Heap) (locs : List Loc) (ls : Array Slot), va_P D classes (wW a k oe fp) H → va_D A (wW a k oe fp) → va_S A s.heap H locs → lv_has ls 4 [(0, .ref (a 7)), (1, .int x1), (2, .int x2)] → W p l e (rm_W_undo) s m args below meth c H locs 0 0 (MQ below (qc_W_undo D A a k fp r) args s 0 0 A) (F0 m 0 ls [])
set_option maxHeartbeats 4000000 in
set_option maxRecDepth 100000 in
theorem k_W_undo_0 {p : Program} {l : Launch} {e : Env} {s : State} {m : MethodId} {args : Array Value} {below : List Frame} {meth : Method} {c : Code} {D : va_G} {A : Nat → Prop} {a : Nat → Nat} {k : Nat → ClassId} {fp : Nat → Int32} (C : cx D [(k 8, .int), (k 9, .int)] R_W b_W_undo 4 none A p s m args meth c) : H_W_undo_0 p l e s m args below meth c D A a k fp (J_W_undo_0) := by
  obtain ⟨hx, hb, hr, hml, hown, ht, hlk, hA, hK⟩ := id C
  intro x1 x2 oe r h H locs ls hP hD hS hl
  unfold J_W_undo_0 at h
  refine lv_iconst (v := 4) hx hb d_W_undo_0 (by decide) ?_
  refine lv_iload_n hx hb d_W_undo_1 rfl (lv_at hl 1 rfl) ?_
  refine lv_imul hx hb d_W_undo_2 ?_
  refine lv_istore_n (lv' := [(3, .int ((4 : Int32) * x1)), (0, .ref (a 7)), (1, .int x1), (2, .int x2)]) hx hb d_W_undo_3 rfl hl (by decide) rfl (fun ls hl => ?_)
  refine lv_iload_n hx hb d_W_undo_4 rfl (lv_at hl 3 rfl) ?_
  refine lv_if_eq (tgt := 29) hx hb d_W_undo_5 (by decide) (fun c_1 => ?_) (fun c_1 => ?_)
  · have h := ite_T c_1 h
    refine lv_aload_n hx hb d_W_undo_29 rfl (lv_at hl 1 rfl) ?_
    refine lv_iload_n hx hb d_W_undo_30 rfl (lv_at hl 0 rfl) ?_
    refine lv_iconst (v := 3) hx hb d_W_undo_31 (by decide) ?_
    refine lv_iadd hx hb d_W_undo_32 ?_
    refine lv_iload_n hx hb d_W_undo_33 rfl (lv_at hl 0 rfl) ?_
    obtain ⟨v_2, e_2, h⟩ := bd_some h
    refine go_Vv (As := [.int (((4 : Int32) * x1) + (3 : Int32)), .int ((4 : Int32) * x1)]) (rest := []) (wc := (wW a k oe fp)) (wr := []) (w1 := (wW a k v_2 fp)) (w2 := (wW a k v_2 fp)) (tc := [(k 8, .int), (k 9, .int)]) hx hb hml hown ht (c_W_part l D a k H.size (((4 : Int32) * x1) + (3 : Int32)) ((4 : Int32) * x1) oe fp v_2 e_2) g_W_28 ⟨rfl, rfl⟩ (n := 2) (by decide +kernel) ⟨(Nat.le_of_ble_eq_true rfl), (Nat.le_of_ble_eq_true rfl)⟩ hP hD hK hS hA ⟨Nat.zero_le _, Nat.zero_le _⟩ [0, 1, 2] [] [0, 1] [0, 1, 2] rfl rfl rfl rfl (by decide) (by decide) (by decide) rfl (by decide) 0 rfl rfl rfl rfl rfl hl.1 (Nat.le_of_ble_eq_true rfl) d_W_undo_34 (fun H locs hP hD hS => ?_)
    refine lv_aload_n hx hb d_W_undo_37 rfl (lv_at hl 1 rfl) ?_
    refine lv_iload_n hx hb d_W_undo_38 rfl (lv_at hl 0 rfl) ?_
    refine lv_iconst (v := 1) hx hb d_W_undo_39 (by decide) ?_
    refine lv_iadd hx hb d_W_undo_40 ?_
    refine lv_iload_n hx hb d_W_undo_41 rfl (lv_at hl 0 rfl) ?_
    refine lv_iconst (v := 2) hx hb d_W_undo_42 (by decide) ?_
    refine lv_iadd hx hb d_W_undo_43 ?_
    obtain ⟨v_3, e_3, h⟩ := bd_some h
    refine go_Vv (As := [.int (((4 : Int32) * x1) + (1 : Int32)), .int (((4 : Int32) * x1) + (2 : Int32))]) (rest := []) (wc := (wW a k v_2 fp)) (wr := []) (w1 := (wW a k v_3 fp)) (w2 := (wW a k v_3 fp)) (tc := [(k 8, .int), (k 9, .int)]) hx hb hml hown ht (c_W_part l D a k H.size (((4 : Int32) * x1) + (1 : Int32)) (((4 : Int32) * x1) + (2 : Int32)) v_2 fp v_3 e_3) g_W_28 ⟨rfl, rfl⟩ (n := 2) (by decide +kernel) ⟨(Nat.le_of_ble_eq_true rfl), (Nat.le_of_ble_eq_true rfl)⟩ hP hD hK hS hA ⟨Nat.zero_le _, Nat.zero_le _⟩ [0, 1, 2] [] [0, 1] [0, 1, 2] rfl rfl rfl rfl (by decide) (by decide) (by decide) rfl (by decide) 0 rfl rfl rfl rfl rfl hl.1 (Nat.le_of_ble_eq_true rfl) d_W_undo_44 (fun H locs hP hD hS => ?_)
    cases h
    exact W.vret hx hb hr (fun t ht hW => ⟨⟨(), rfl, trivial, by rw [ht]; exact hP, va_K.moved hW.alike hK, hD⟩, hS.F ht⟩) hS.2.2 d_W_undo_47 hlk
  · have h := ite_F c_1 h
    refine lv_aload_n hx hb d_W_undo_8 rfl (lv_at hl 1 rfl) ?_
    refine lv_iload_n hx hb d_W_undo_9 rfl (lv_at hl 0 rfl) ?_
    refine lv_iconst (v := 2) hx hb d_W_undo_10 (by decide) ?_
    refine lv_iadd hx hb d_W_undo_11 ?_
    refine lv_iload_n hx hb d_W_undo_12 rfl (lv_at hl 0 rfl) ?_
    refine lv_iconst (v := 3) hx hb d_W_undo_13 (by decide) ?_
    refine lv_iadd hx hb d_W_undo_14 ?_
    obtain ⟨v_4, e_4, h⟩ := bd_some h
    refine go_Vv (As := [.int (((4 : Int32) * x1) + (2 : Int32)), .int (((4 : Int32) * x1) + (3 : Int32))]) (rest := []) (wc := (wW a k oe fp)) (wr := []) (w1 := (wW a k v_4 fp)) (w2 := (wW a k v_4 fp)) (tc := [(k 8, .int), (k 9, .int)]) hx hb hml hown ht (c_W_part l D a k H.size (((4 : Int32) * x1) + (2 : Int32)) (((4 : Int32) * x1) + (3 : Int32)) oe fp v_4 e_4) g_W_28 ⟨rfl, rfl⟩ (n := 2) (by decide +kernel) ⟨(Nat.le_of_ble_eq_true rfl), (Nat.le_of_ble_eq_true rfl)⟩ hP hD hK hS hA ⟨Nat.zero_le _, Nat.zero_le _⟩ [0, 1, 2] [] [0, 1] [0, 1, 2] rfl rfl rfl rfl (by decide) (by decide) (by decide) rfl (by decide) 0 rfl rfl rfl rfl rfl hl.1 (Nat.le_of_ble_eq_true rfl) d_W_undo_15 (fun H locs hP hD hS => ?_)
    refine lv_aload_n hx hb d_W_undo_18 rfl (lv_at hl 1 rfl) ?_
    refine lv_iload_n hx hb d_W_undo_19 rfl (lv_at hl 0 rfl) ?_
    refine lv_iload_n hx hb d_W_undo_20 rfl (lv_at hl 0 rfl) ?_
    refine lv_iconst (v := 1) hx hb d_W_undo_21 (by decide) ?_
    refine lv_iadd hx hb d_W_undo_22 ?_
    obtain ⟨v_5, e_5, h⟩ := bd_some h
    refine go_Vv (As := [.int ((4 : Int32) * x1), .int (((4 : Int32) * x1) + (1 : Int32))]) (rest := []) (wc := (wW a k v_4 fp)) (wr := []) (w1 := (wW a k v_5 fp)) (w2 := (wW a k v_5 fp)) (tc := [(k 8, .int), (k 9, .int)]) hx hb hml hown ht (c_W_part l D a k H.size ((4 : Int32) * x1) (((4 : Int32) * x1) + (1 : Int32)) v_4 fp v_5 e_5) g_W_28 ⟨rfl, rfl⟩ (n := 2) (by decide +kernel) ⟨(Nat.le_of_ble_eq_true rfl), (Nat.le_of_ble_eq_true rfl)⟩ hP hD hK hS hA ⟨Nat.zero_le _, Nat.zero_le _⟩ [0, 1, 2] [] [0, 1] [0, 1, 2] rfl rfl rfl rfl (by decide) (by decide) (by decide) rfl (by decide) 0 rfl rfl rfl rfl rfl hl.1 (Nat.le_of_ble_eq_true rfl) d_W_undo_23 (fun H locs hP hD hS => ?_)
    refine lv_goto (tgt := 47) hx hb d_W_undo_26 (by decide) ?_
    cases h
    exact W.vret hx hb hr (fun t ht hW => ⟨⟨(), rfl, trivial, by rw [ht]; exact hP, va_K.moved hW.alike hK, hD⟩, hS.F ht⟩) hS.2.2 d_W_undo_47 hlk
set_option maxRecDepth 20000 in
theorem c_W_undo (l : Launch) (D : va_G) (a : Nat → Nat) (k : Nat → ClassId) (sz : Nat) (x1 : Int32) (x2 : Int32) (oe : Nat → Int32) (fp : Nat → Int32) (r : (Nat → Int32)) (h : F_W_undo x1 x2 oe = some r) : Met l y_W_undo (Cond.code y_W_undo b_W_undo 4 none :: lw_g) (rm_W_undo) (va_Pc [.ref (a 7), .int x1, .int x2] (pcW D [(k 8, .int), (k 9, .int)] (wW a k oe fp) sz)) (qc_W_undo D (va_A (wW a k oe fp) sz) a k fp r) 0 0 (va_A (wW a k oe fp) sz) := by
  refine Met.ofW (cc := b_W_undo) (maxL := 4) (ret := none) (by decide) rfl ?_
  intro p e s m args below meth c s₁ B hml hv
  obtain ⟨rfl, hsz, hP, hK, hD0⟩ := hv
  have hts := atoms_spec (ws := Cond.code y_W_undo b_W_undo 4 none :: lw_g) B.pre
  subst hsz
  have hD := hD0.self (sz := s.heap.size)
  have hl := lv_entry ([.ref (a 7), .int x1, .int x2]) (n := 4) (Nat.le_of_ble_eq_true rfl)
  rw [lg_entry_eq]
  generalize (lg_sl ([.ref (a 7), .int x1, .int x2]) ++ List.replicate (4 - (lg_sl ([.ref (a 7), .int x1, .int x2])).length) Slot.unset).toArray = ls at hl ⊢
  exact k_W_undo_0 ⟨B.exec, B.bytes, B.returns, hml, findClass_of_methodNamed B.named, fun w hw => hts w (List.mem_cons_of_mem _ hw), B.notSynchronized, fun q h => Or.inr h, hK⟩ _ _ _ _ h _ _ _ hP hD va_S.rf hl

def rm_W_followLabels : Room := { frames := 1, cells := 0, slots := 0, locals := 23 }
def qc_W_followLabels (D : va_G) (A : Nat → Prop) (a : Nat → Nat) (k : Nat → ClassId) (lab : Nat → Int32) (r : (Nat → Int32) × (Nat → Int32)) : Array Value → State → Outcome → State → Prop := va_Qv (fun (_ : Unit) => True) (poW D [(k 8, .int), (k 9, .int), (k 1, .int)] (wL a k r.1 r.2 lab) A) A
def J_W_followLabels_10 (rec10 : Int32 → Int32 → (Nat → Int32) → (Nat → Int32) → (Nat → Int32) → Option ((Nat → Int32) × (Nat → Int32))) (x2 : Int32) (x3 : Int32) (oe : Nat → Int32) (fp : Nat → Int32) (lab : Nat → Int32) : Option ((Nat → Int32) × (Nat → Int32)) :=
  (if x2 ≤ x3 then some (oe, fp) else (if inb x3 40 then (if inb (lab x3.toNatClampNeg) 100 then (if 0 ≤ (fp (lab x3.toNatClampNeg).toNatClampNeg) then (if inb (fp (lab x3.toNatClampNeg).toNatClampNeg) 40 then (if inb x3 40 then rec10 x2 (x3 + 1) (upd (upd oe (fp (lab x3.toNatClampNeg).toNatClampNeg).toNatClampNeg x3) x3.toNatClampNeg (fp (lab x3.toNatClampNeg).toNatClampNeg)) fp lab else none) else none) else (if inb x3 40 then (if inb (lab x3.toNatClampNeg) 100 then rec10 x2 (x3 + 1) oe (upd fp (lab x3.toNatClampNeg).toNatClampNeg x3) lab else none) else none)) else none) else none))
def L_W_followLabels_10 : Nat → Int32 → Int32 → (Nat → Int32) → (Nat → Int32) → (Nat → Int32) → Option ((Nat → Int32) × (Nat → Int32))
  | 0 => fun _ _ _ _ _ => none
  | n + 1 => J_W_followLabels_10 (L_W_followLabels_10 n)
def J_W_followLabels_0 (x2 : Int32) (oe : Nat → Int32) (fp : Nat → Int32) (lab : Nat → Int32) : Option ((Nat → Int32) × (Nat → Int32)) :=
  L_W_followLabels_10 fu x2 (0 : Int32) oe (fun _ => (-1 : Int32)) lab
def F_W_followLabels (x2 : Int32) (oe : Nat → Int32) (fp : Nat → Int32) (lab : Nat → Int32) : Option ((Nat → Int32) × (Nat → Int32)) := J_W_followLabels_0 x2 oe fp lab
def H_W_followLabels_10 (p : Program) (l : Launch) (e : Env) (s : State) (m : MethodId) (args : Array Value) (below : List Frame) (meth : Method) (c : Code) (D : va_G) (A : Nat → Prop) (a : Nat → Nat) (k : Nat → ClassId) (f : Int32 → Int32 → (Nat → Int32) → (Nat → Int32) → (Nat → Int32) → Option ((Nat → Int32) × (Nat → Int32))) : Prop := ∀ (x2 : Int32) (x3 : Int32) (oe : Nat → Int32) (fp : Nat → Int32) (lab : Nat → Int32) (r : (Nat → Int32) × (Nat → Int32)), f x2 x3 oe fp lab = some r → ∀ (H : Heap) (locs : List Loc) (ls : Array Slot), va_P D classes (wL a k oe fp lab) H → va_D A (wL a k oe fp lab) → va_S A s.heap H locs → lv_has ls 5 [(0, .ref (a 7)), (1, .ref (a 1)), (2, .int x2), (3, .int x3)] → W p l e (rm_W_followLabels) s m args below meth c H locs 0 0 (MQ below (qc_W_followLabels D A a k lab r) args s 0 0 A) (F0 m 10 ls [])
def H_W_followLabels_0 (p : Program) (l : Launch) (e : Env) (s : State) (m : MethodId) (args : Array Value) (below : List Frame) (meth : Method) (c : Code) (D : va_G) (A : Nat → Prop) (a : Nat → Nat) (k : Nat → ClassId) (f : Int32 → (Nat → Int32) → (Nat → Int32) → (Nat → Int32) → Option ((Nat → Int32) × (Nat → Int32))) : Prop := ∀ (x2 : Int32) (oe : Nat → Int32) (fp : Nat → Int32) (lab : Nat → Int32) (r : (Nat → Int32) × (Nat → Int32)), f x2 oe fp lab = some r → ∀ (H : Heap) (locs : List Loc) (ls : Array Slot), va_P D classes (wL a k oe fp lab) H → va_D A (wL a k oe fp lab) → va_S A s.heap H locs → lv_has ls 5 [(0, .ref (a 7)), (1, .ref (a 1)), (2, .int x2)] → W p l e (rm_W_followLabels) s m args below meth c H locs 0 0 (MQ below (qc_W_followLabels D A a k lab r) args s 0 0 A) (F0 m 0 ls [])
set_option maxHeartbeats 4000000 in
set_option maxRecDepth 100000 in
theorem k_W_followLabels_10 {p : Program} {l : Launch} {e : Env} {s : State} {m : MethodId} {args : Array Value} {below : List Frame} {meth : Method} {c : Code} {D : va_G} {A : Nat → Prop} {a : Nat → Nat} {k : Nat → ClassId} {rec10 : Int32 → Int32 → (Nat → Int32) → (Nat → Int32) → (Nat → Int32) → Option ((Nat → Int32) × (Nat → Int32))} (C : cx D [(k 8, .int), (k 9, .int), (k 1, .int)] R_W b_W_followLabels 5 none A p s m args meth c) (hrec10 : H_W_followLabels_10 p l e s m args below meth c D A a k rec10) : H_W_followLabels_10 p l e s m args below meth c D A a k (J_W_followLabels_10 rec10) := by
  obtain ⟨hx, hb, hr, hml, hown, ht, hlk, hA, hK⟩ := id C
  intro x2 x3 oe fp lab r h H locs ls hP hD hS hl
  unfold J_W_followLabels_10 at h
  refine lv_iload_n hx hb d_W_followLabels_10 rfl (lv_at hl 3 rfl) ?_
  refine lv_iload_n hx hb d_W_followLabels_11 rfl (lv_at hl 2 rfl) ?_
  refine lv_icmp_ge (tgt := 64) hx hb d_W_followLabels_12 (by decide) (fun c_1 => ?_) (fun c_1 => ?_)
  · have h := ite_T c_1 h
    cases h
    exact W.vret hx hb hr (fun t ht hW => ⟨⟨(), rfl, trivial, by rw [ht]; exact hP, va_K.moved hW.alike hK, hD⟩, hS.F ht⟩) hS.2.2 d_W_followLabels_64 hlk
  · have h := ite_F c_1 h
    refine lv_aload_n hx hb d_W_followLabels_15 rfl (lv_at hl 0 rfl) ?_
    refine va_get (D := D) (ci := 1) (v := .ref (a 9)) (C := R_W) (T := F_W) (N := 2) hx hb ht iC_W hown hK hP 0 rfl rfl 1 (by decide) (ht _ ix_17) (fun _ h9 => h9) rfl d_W_followLabels_16 ?_
    refine lv_aload_n hx hb d_W_followLabels_19 rfl (lv_at hl 1 rfl) ?_
    refine lv_iload_n hx hb d_W_followLabels_20 rfl (lv_at hl 3 rfl) ?_
    obtain ⟨g_2, h⟩ := gd_some h
    refine va_iald hx hb hK hP 3 2 rfl rfl (inb_in g_2) d_W_followLabels_21 ?_
    obtain ⟨g_3, h⟩ := gd_some h
    refine va_iald hx hb hK hP 2 1 rfl rfl (inb_in g_3) d_W_followLabels_22 ?_
    refine lv_istore (lv' := [(4, .int (fp (lab x3.toNatClampNeg).toNatClampNeg)), (0, .ref (a 7)), (1, .ref (a 1)), (2, .int x2), (3, .int x3)]) hx hb d_W_followLabels_23 hl (by decide) rfl (fun ls hl => ?_)
    refine lv_iload hx hb d_W_followLabels_25 (lv_at hl 0 rfl) ?_
    refine lv_if_ge (tgt := 42) hx hb d_W_followLabels_27 (by decide) (fun c_4 => ?_) (fun c_4 => ?_)
    · have h := ite_T c_4 h
      refine lv_aload_n hx hb d_W_followLabels_42 rfl (lv_at hl 1 rfl) ?_
      refine va_get (D := D) (ci := 1) (v := .ref (a 8)) (C := R_W) (T := F_W) (N := 2) hx hb ht iC_W hown hK hP 0 rfl rfl 0 (by decide) (ht _ ix_7) (fun _ h9 => h9) rfl d_W_followLabels_43 ?_
      refine lv_iload hx hb d_W_followLabels_46 (lv_at hl 0 rfl) ?_
      refine lv_iload_n hx hb d_W_followLabels_48 rfl (lv_at hl 4 rfl) ?_
      obtain ⟨g_5, h⟩ := gd_some h
      refine va_iast hx hb hK hP hD hS 1 0 rfl rfl (inb_in g_5) d_W_followLabels_49 (fun H locs hP hD hS => ?_)
      have hP : va_P D classes (wL a k (upd oe (fp (lab x3.toNatClampNeg).toNatClampNeg).toNatClampNeg x3) fp lab) H := hP
      have hD : va_D A (wL a k (upd oe (fp (lab x3.toNatClampNeg).toNatClampNeg).toNatClampNeg x3) fp lab) := hD
      refine lv_aload_n hx hb d_W_followLabels_50 rfl (lv_at hl 1 rfl) ?_
      refine va_get (D := D) (ci := 1) (v := .ref (a 8)) (C := R_W) (T := F_W) (N := 2) hx hb ht iC_W hown hK hP 0 rfl rfl 0 (by decide) (ht _ ix_7) (fun _ h9 => h9) rfl d_W_followLabels_51 ?_
      refine lv_iload_n hx hb d_W_followLabels_54 rfl (lv_at hl 4 rfl) ?_
      refine lv_iload hx hb d_W_followLabels_55 (lv_at hl 0 rfl) ?_
      obtain ⟨g_6, h⟩ := gd_some h
      refine va_iast hx hb hK hP hD hS 1 0 rfl rfl (inb_in g_6) d_W_followLabels_57 (fun H locs hP hD hS => ?_)
      have hP : va_P D classes (wL a k (upd (upd oe (fp (lab x3.toNatClampNeg).toNatClampNeg).toNatClampNeg x3) x3.toNatClampNeg (fp (lab x3.toNatClampNeg).toNatClampNeg)) fp lab) H := hP
      have hD : va_D A (wL a k (upd (upd oe (fp (lab x3.toNatClampNeg).toNatClampNeg).toNatClampNeg x3) x3.toNatClampNeg (fp (lab x3.toNatClampNeg).toNatClampNeg)) fp lab) := hD
      refine lv_iinc (v := x3 + 1) (lv' := [(3, .int (x3 + 1)), (4, .int (fp (lab x3.toNatClampNeg).toNatClampNeg)), (0, .ref (a 7)), (1, .ref (a 1)), (2, .int x2)]) hx hb d_W_followLabels_58 hl (k := 4) rfl rfl (by decide) rfl (fun ls hl => ?_)
      refine lv_goto (tgt := 10) hx hb d_W_followLabels_61 (by decide) ?_
      exact hrec10 _ _ _ _ _ _ h _ _ _ hP hD hS (lv_sub hl [2, 3, 4, 0] rfl)
    · have h := ite_F c_4 h
      refine lv_aload_n hx hb d_W_followLabels_30 rfl (lv_at hl 1 rfl) ?_
      refine va_get (D := D) (ci := 1) (v := .ref (a 9)) (C := R_W) (T := F_W) (N := 2) hx hb ht iC_W hown hK hP 0 rfl rfl 1 (by decide) (ht _ ix_17) (fun _ h9 => h9) rfl d_W_followLabels_31 ?_
      refine lv_aload_n hx hb d_W_followLabels_34 rfl (lv_at hl 2 rfl) ?_
      refine lv_iload_n hx hb d_W_followLabels_35 rfl (lv_at hl 4 rfl) ?_
      obtain ⟨g_7, h⟩ := gd_some h
      refine va_iald hx hb hK hP 3 2 rfl rfl (inb_in g_7) d_W_followLabels_36 ?_
      refine lv_iload_n hx hb d_W_followLabels_37 rfl (lv_at hl 4 rfl) ?_
      obtain ⟨g_8, h⟩ := gd_some h
      refine va_iast hx hb hK hP hD hS 2 1 rfl rfl (inb_in g_8) d_W_followLabels_38 (fun H locs hP hD hS => ?_)
      have hP : va_P D classes (wL a k oe (upd fp (lab x3.toNatClampNeg).toNatClampNeg x3) lab) H := hP
      have hD : va_D A (wL a k oe (upd fp (lab x3.toNatClampNeg).toNatClampNeg x3) lab) := hD
      refine lv_goto (tgt := 58) hx hb d_W_followLabels_39 (by decide) ?_
      refine lv_iinc (v := x3 + 1) (lv' := [(3, .int (x3 + 1)), (4, .int (fp (lab x3.toNatClampNeg).toNatClampNeg)), (0, .ref (a 7)), (1, .ref (a 1)), (2, .int x2)]) hx hb d_W_followLabels_58 hl (k := 4) rfl rfl (by decide) rfl (fun ls hl => ?_)
      refine lv_goto (tgt := 10) hx hb d_W_followLabels_61 (by decide) ?_
      exact hrec10 _ _ _ _ _ _ h _ _ _ hP hD hS (lv_sub hl [2, 3, 4, 0] rfl)
theorem k_W_followLabels_10_L {p : Program} {l : Launch} {e : Env} {s : State} {m : MethodId} {args : Array Value} {below : List Frame} {meth : Method} {c : Code} {D : va_G} {A : Nat → Prop} {a : Nat → Nat} {k : Nat → ClassId} (C : cx D [(k 8, .int), (k 9, .int), (k 1, .int)] R_W b_W_followLabels 5 none A p s m args meth c) : ∀ n : Nat, H_W_followLabels_10 p l e s m args below meth c D A a k (L_W_followLabels_10 n)
  | 0 => fun _ _ _ _ _ _ h => nomatch h
  | n + 1 => k_W_followLabels_10 C (k_W_followLabels_10_L C n)
set_option maxHeartbeats 4000000 in
set_option maxRecDepth 100000 in
theorem k_W_followLabels_0 {p : Program} {l : Launch} {e : Env} {s : State} {m : MethodId} {args : Array Value} {below : List Frame} {meth : Method} {c : Code} {D : va_G} {A : Nat → Prop} {a : Nat → Nat} {k : Nat → ClassId} (C : cx D [(k 8, .int), (k 9, .int), (k 1, .int)] R_W b_W_followLabels 5 none A p s m args meth c) : H_W_followLabels_0 p l e s m args below meth c D A a k (J_W_followLabels_0) := by
  obtain ⟨hx, hb, hr, hml, hown, ht, hlk, hA, hK⟩ := id C
  intro x2 oe fp lab r h H locs ls hP hD hS hl
  unfold J_W_followLabels_0 at h
  refine lv_aload_n hx hb d_W_followLabels_0 rfl (lv_at hl 0 rfl) ?_
  refine va_get (D := D) (ci := 1) (v := .ref (a 9)) (C := R_W) (T := F_W) (N := 2) hx hb ht iC_W hown hK hP 0 rfl rfl 1 (by decide) (ht _ ix_17) (fun _ h9 => h9) rfl d_W_followLabels_1 ?_
  refine lv_iconst (v := (-1)) hx hb d_W_followLabels_4 (by decide) ?_
  refine go_Sv (As := [.ref (a 9), .int (-1 : Int32)]) (rest := []) (wc := [((a 9), .inl (k 9, 100, .inl fp))]) (wr := [((a 7), .inr (1, [.ref (a 8), .ref (a 9)])), ((a 8), .inl (k 8, 40, .inl oe)), ((a 1), .inl (k 1, 40, .inl lab))]) (w1 := [((a 9), .inl (k 9, 100, .inl (fun _ => (-1 : Int32))))]) (w2 := (wL a k oe (fun _ => (-1 : Int32)) lab)) (tc := [(k 9, .int)]) hx hb hml hown ht (c_fillI l D (a 9) (k 9) 100 H.size fp (-1 : Int32) (by decide)) g_W_18 ⟨rfl, rfl⟩ (n := 2) (by decide +kernel) ⟨(Nat.le_of_ble_eq_true rfl), (Nat.le_of_ble_eq_true rfl)⟩ hP hD hK hS hA ⟨Nat.zero_le _, Nat.zero_le _⟩ [2] [0, 1, 3] [1] [0, 1, 3, 2] rfl rfl rfl rfl (by decide) (by decide) (by decide) rfl (by decide) rfl rfl hl.1 (Nat.le_of_ble_eq_true rfl) d_W_followLabels_5 (fun H locs hP hD hS => ?_)
  refine lv_iconst (v := 0) hx hb d_W_followLabels_8 (by decide) ?_
  refine lv_istore_n (lv' := [(3, .int (0 : Int32)), (0, .ref (a 7)), (1, .ref (a 1)), (2, .int x2)]) hx hb d_W_followLabels_9 rfl hl (by decide) rfl (fun ls hl => ?_)
  exact (k_W_followLabels_10_L C fu) _ _ _ _ _ _ h _ _ _ hP hD hS (lv_sub hl [1, 2, 3, 0] rfl)
set_option maxRecDepth 20000 in
theorem c_W_followLabels (l : Launch) (D : va_G) (a : Nat → Nat) (k : Nat → ClassId) (sz : Nat) (x2 : Int32) (oe : Nat → Int32) (fp : Nat → Int32) (lab : Nat → Int32) (r : (Nat → Int32) × (Nat → Int32)) (h : F_W_followLabels x2 oe fp lab = some r) : Met l y_W_followLabels (Cond.code y_W_followLabels b_W_followLabels 5 none :: lw_g) (rm_W_followLabels) (va_Pc [.ref (a 7), .ref (a 1), .int x2] (pcW D [(k 8, .int), (k 9, .int), (k 1, .int)] (wL a k oe fp lab) sz)) (qc_W_followLabels D (va_A (wL a k oe fp lab) sz) a k lab r) 0 0 (va_A (wL a k oe fp lab) sz) := by
  refine Met.ofW (cc := b_W_followLabels) (maxL := 5) (ret := none) (by decide) rfl ?_
  intro p e s m args below meth c s₁ B hml hv
  obtain ⟨rfl, hsz, hP, hK, hD0⟩ := hv
  have hts := atoms_spec (ws := Cond.code y_W_followLabels b_W_followLabels 5 none :: lw_g) B.pre
  subst hsz
  have hD := hD0.self (sz := s.heap.size)
  have hl := lv_entry ([.ref (a 7), .ref (a 1), .int x2]) (n := 5) (Nat.le_of_ble_eq_true rfl)
  rw [lg_entry_eq]
  generalize (lg_sl ([.ref (a 7), .ref (a 1), .int x2]) ++ List.replicate (5 - (lg_sl ([.ref (a 7), .ref (a 1), .int x2])).length) Slot.unset).toArray = ls at hl ⊢
  exact k_W_followLabels_0 ⟨B.exec, B.bytes, B.returns, hml, findClass_of_methodNamed B.named, fun w hw => hts w (List.mem_cons_of_mem _ hw), B.notSynchronized, fun q h => Or.inr h, hK⟩ _ _ _ _ _ h _ _ _ hP hD va_S.rf hl

def rm_P_setZero : Room := { frames := 1, cells := 0, slots := 0, locals := 24 }
def qc_P_setZero (D : va_G) (A : Nat → Prop) (a : Nat → Nat) (k : Nat → ClassId) (sp : Nat → Int64) (qr : Nat) (qs : Nat) (r : (Nat → Int64)) : Array Value → State → Outcome → State → Prop := va_Qv (fun (_ : Unit) => True) (poW D [(k 11, .long)] (wP a k r sp qr qs) A) A
def J_P_setZero_0 (ro : Nat → Int64) : Option ((Nat → Int64)) :=
  some ((fun _ => (0 : Int64)))
def F_P_setZero (ro : Nat → Int64) : Option ((Nat → Int64)) := J_P_setZero_0 ro
def H_P_setZero_0 (p : Program) (l : Launch) (e : Env) (s : State) (m : MethodId) (args : Array Value) (below : List Frame) (meth : Method) (c : Code) (D : va_G) (A : Nat → Prop) (a : Nat → Nat) (k : Nat → ClassId) (sp : Nat → Int64) (qr : Nat) (qs : Nat) (f : (Nat → Int64) → Option ((Nat → Int64))) : Prop := ∀ (ro : Nat → Int64) (r : (Nat → Int64)), f ro = some r → ∀ (H : Heap) (locs : List Loc) (ls : Array Slot), va_P D classes (wP a k ro sp qr qs) H → va_D A (wP a k ro sp qr qs) → va_S A s.heap H locs → lv_has ls 1 [(0, .ref (a 10))] → W p l e (rm_P_setZero) s m args below meth c H locs 0 0 (MQ below (qc_P_setZero D A a k sp qr qs r) args s 0 0 A) (F0 m 0 ls [])
set_option maxHeartbeats 4000000 in
set_option maxRecDepth 100000 in
theorem k_P_setZero_0 {p : Program} {l : Launch} {e : Env} {s : State} {m : MethodId} {args : Array Value} {below : List Frame} {meth : Method} {c : Code} {D : va_G} {A : Nat → Prop} {a : Nat → Nat} {k : Nat → ClassId} {sp : Nat → Int64} {qr : Nat} {qs : Nat} (C : cx D [(k 11, .long)] R_P b_P_setZero 1 none A p s m args meth c) : H_P_setZero_0 p l e s m args below meth c D A a k sp qr qs (J_P_setZero_0) := by
  obtain ⟨hx, hb, hr, hml, hown, ht, hlk, hA, hK⟩ := id C
  intro ro r h H locs ls hP hD hS hl
  unfold J_P_setZero_0 at h
  refine lv_aload_n hx hb d_P_setZero_0 rfl (lv_at hl 0 rfl) ?_
  refine va_get (D := D) (ci := 2) (v := .ref qr) (C := R_P) (T := F_P) (N := 2) hx hb ht iC_P hown hK hP 0 rfl rfl 0 (by decide) (ht _ ix_22) (fun _ h9 => h9) rfl d_P_setZero_1 ?_
  refine lv_lconst (v := 0) hx hb d_P_setZero_4 (by decide) ?_
  refine go_Sv (As := [.ref qr, .long (0 : Int64)]) (rest := []) (wc := [(qr, .inl (k 11, 133, .inr (.inl ro)))]) (wr := [((a 10), .inr (2, [.ref qr, .ref qs])), (qs, .inl (k 11, 133, .inr (.inl sp)))]) (w1 := [(qr, .inl (k 11, 133, .inr (.inl (fun _ => (0 : Int64)))))]) (w2 := (wP a k (fun _ => (0 : Int64)) sp qr qs)) (tc := [(k 11, .long)]) hx hb hml hown ht (c_fillJ l D qr (k 11) 133 H.size ro (0 : Int64) (by decide)) g_P_18 ⟨rfl, rfl⟩ (n := 2) (by decide +kernel) ⟨(Nat.le_of_ble_eq_true rfl), (Nat.le_of_ble_eq_true rfl)⟩ hP hD hK hS hA ⟨Nat.zero_le _, Nat.zero_le _⟩ [1] [0, 2] [0] [0, 2, 1] rfl rfl rfl rfl (by decide) (by decide) (by decide) rfl (by decide) rfl rfl hl.1 (Nat.le_of_ble_eq_true rfl) d_P_setZero_5 (fun H locs hP hD hS => ?_)
  cases h
  exact W.vret hx hb hr (fun t ht hW => ⟨⟨(), rfl, trivial, by rw [ht]; exact hP, va_K.moved hW.alike hK, hD⟩, hS.F ht⟩) hS.2.2 d_P_setZero_8 hlk
set_option maxRecDepth 20000 in
theorem c_P_setZero (l : Launch) (D : va_G) (a : Nat → Nat) (k : Nat → ClassId) (sz : Nat) (ro : Nat → Int64) (sp : Nat → Int64) (qr : Nat) (qs : Nat) (r : (Nat → Int64)) (h : F_P_setZero ro = some r) : Met l y_P_setZero (Cond.code y_P_setZero b_P_setZero 1 none :: lw_g) (rm_P_setZero) (va_Pc [.ref (a 10)] (pcW D [(k 11, .long)] (wP a k ro sp qr qs) sz)) (qc_P_setZero D (va_A (wP a k ro sp qr qs) sz) a k sp qr qs r) 0 0 (va_A (wP a k ro sp qr qs) sz) := by
  refine Met.ofW (cc := b_P_setZero) (maxL := 1) (ret := none) (by decide) rfl ?_
  intro p e s m args below meth c s₁ B hml hv
  obtain ⟨rfl, hsz, hP, hK, hD0⟩ := hv
  have hts := atoms_spec (ws := Cond.code y_P_setZero b_P_setZero 1 none :: lw_g) B.pre
  subst hsz
  have hD := hD0.self (sz := s.heap.size)
  have hl := lv_entry ([.ref (a 10)]) (n := 1) (Nat.le_of_ble_eq_true rfl)
  rw [lg_entry_eq]
  generalize (lg_sl ([.ref (a 10)]) ++ List.replicate (1 - (lg_sl ([.ref (a 10)])).length) Slot.unset).toArray = ls at hl ⊢
  exact k_P_setZero_0 ⟨B.exec, B.bytes, B.returns, hml, findClass_of_methodNamed B.named, fun w hw => hts w (List.mem_cons_of_mem _ hw), B.notSynchronized, fun q h => Or.inr h, hK⟩ _ _ h _ _ _ hP hD va_S.rf hl

def rm_P_at : Room := { frames := 0, cells := 0, slots := 0, locals := 0 }
def qc_P_at (D : va_G) (A : Nat → Prop) (a : Nat → Nat) (k : Nat → ClassId) (ro : Nat → Int64) (sp : Nat → Int64) (qr : Nat) (qs : Nat) (r : Int64) : Array Value → State → Outcome → State → Prop := va_Ql (fun (r1 : Int64) (_ : Unit) => r1 = r) (poW D [(k 11, .long)] (wP a k ro sp qr qs) A) A
def J_P_at_0 (x1 : Int64) (ro : Nat → Int64) : Option (Int64) :=
  (if (lg_cmp x1 (-66 : Int64)) < 0 then some ((0 : Int64)) else (if (lg_cmp x1 (66 : Int64)) ≤ 0 then (if inb (((x1).toInt32) + (66 : Int32)) 133 then some ((ro (((x1).toInt32) + (66 : Int32)).toNatClampNeg)) else none) else some ((0 : Int64))))
def F_P_at (x1 : Int64) (ro : Nat → Int64) : Option (Int64) := J_P_at_0 x1 ro
def H_P_at_0 (p : Program) (l : Launch) (e : Env) (s : State) (m : MethodId) (args : Array Value) (below : List Frame) (meth : Method) (c : Code) (D : va_G) (A : Nat → Prop) (a : Nat → Nat) (k : Nat → ClassId) (sp : Nat → Int64) (qr : Nat) (qs : Nat) (f : Int64 → (Nat → Int64) → Option (Int64)) : Prop := ∀ (x1 : Int64) (ro : Nat → Int64) (r : Int64), f x1 ro = some r → ∀ (H : Heap) (locs : List Loc) (ls : Array Slot), va_P D classes (wP a k ro sp qr qs) H → va_D A (wP a k ro sp qr qs) → va_S A s.heap H locs → lv_has ls 3 [(0, .ref (a 10)), (1, .long x1)] → W p l e (rm_P_at) s m args below meth c H locs 0 0 (MQ below (qc_P_at D A a k ro sp qr qs r) args s 0 0 A) (F0 m 0 ls [])
set_option maxHeartbeats 4000000 in
set_option maxRecDepth 100000 in
theorem k_P_at_0 {p : Program} {l : Launch} {e : Env} {s : State} {m : MethodId} {args : Array Value} {below : List Frame} {meth : Method} {c : Code} {D : va_G} {A : Nat → Prop} {a : Nat → Nat} {k : Nat → ClassId} {sp : Nat → Int64} {qr : Nat} {qs : Nat} (C : cx D [(k 11, .long)] R_P b_P_at 3 (some .long) A p s m args meth c) : H_P_at_0 p l e s m args below meth c D A a k sp qr qs (J_P_at_0) := by
  obtain ⟨hx, hb, hr, hml, hown, ht, hlk, hA, hK⟩ := id C
  intro x1 ro r h H locs ls hP hD hS hl
  unfold J_P_at_0 at h
  refine lv_lload_n hx hb d_P_at_0 rfl (lv_at hl 1 rfl) ?_
  refine lv_ldc2 (v := (-66)) hx hb hown (ht _ ix_26) d_P_at_1 ?_
  refine W.lcmp hx hb d_P_at_4 ?_
  refine lv_if_lt (tgt := 16) hx hb d_P_at_5 (by decide) (fun c_1 => ?_) (fun c_1 => ?_)
  · have h := ite_T c_1 h
    refine lv_lconst (v := 0) hx hb d_P_at_16 (by decide) ?_
    refine lv_goto (tgt := 30) hx hb d_P_at_17 (by decide) ?_
    cases h
    exact W.lret hx hb hr (fun t ht hW => ⟨⟨_, (), rfl, rfl, by rw [ht]; exact hP, va_K.moved hW.alike hK, hD⟩, hS.F ht⟩) hS.2.2 d_P_at_30 hlk
  · have h := ite_F c_1 h
    refine lv_lload_n hx hb d_P_at_8 rfl (lv_at hl 1 rfl) ?_
    refine lv_ldc2 (v := (66)) hx hb hown (ht _ ix_27) d_P_at_9 ?_
    refine W.lcmp hx hb d_P_at_12 ?_
    refine lv_if_le (tgt := 20) hx hb d_P_at_13 (by decide) (fun c_2 => ?_) (fun c_2 => ?_)
    · have h := ite_T c_2 h
      refine lv_aload_n hx hb d_P_at_20 rfl (lv_at hl 0 rfl) ?_
      refine va_get (D := D) (ci := 2) (v := .ref qr) (C := R_P) (T := F_P) (N := 2) hx hb ht iC_P hown hK hP 0 rfl rfl 0 (by decide) (ht _ ix_22) (fun _ h9 => h9) rfl d_P_at_21 ?_
      refine lv_lload_n hx hb d_P_at_24 rfl (lv_at hl 1 rfl) ?_
      refine lv_l2i (v := (x1).toInt32) hx hb d_P_at_25 rfl ?_
      refine lv_bipush (v := 66) hx hb d_P_at_26 (by decide) ?_
      refine lv_iadd hx hb d_P_at_28 ?_
      obtain ⟨g_3, h⟩ := gd_some h
      refine va_lald hx hb hK hP 1 0 rfl rfl (inb_in g_3) d_P_at_29 ?_
      cases h
      exact W.lret hx hb hr (fun t ht hW => ⟨⟨_, (), rfl, rfl, by rw [ht]; exact hP, va_K.moved hW.alike hK, hD⟩, hS.F ht⟩) hS.2.2 d_P_at_30 hlk
    · have h := ite_F c_2 h
      refine lv_lconst (v := 0) hx hb d_P_at_16 (by decide) ?_
      refine lv_goto (tgt := 30) hx hb d_P_at_17 (by decide) ?_
      cases h
      exact W.lret hx hb hr (fun t ht hW => ⟨⟨_, (), rfl, rfl, by rw [ht]; exact hP, va_K.moved hW.alike hK, hD⟩, hS.F ht⟩) hS.2.2 d_P_at_30 hlk
set_option maxRecDepth 20000 in
theorem c_P_at (l : Launch) (D : va_G) (a : Nat → Nat) (k : Nat → ClassId) (sz : Nat) (x1 : Int64) (ro : Nat → Int64) (sp : Nat → Int64) (qr : Nat) (qs : Nat) (r : Int64) (h : F_P_at x1 ro = some r) : Met l y_P_at (Cond.code y_P_at b_P_at 3 (some .long) :: lw_g) (rm_P_at) (va_Pc [.ref (a 10), .long x1] (pcW D [(k 11, .long)] (wP a k ro sp qr qs) sz)) (qc_P_at D (va_A (wP a k ro sp qr qs) sz) a k ro sp qr qs r) 0 0 (va_A (wP a k ro sp qr qs) sz) := by
  refine Met.ofW (cc := b_P_at) (maxL := 3) (ret := (some .long)) (by decide) rfl ?_
  intro p e s m args below meth c s₁ B hml hv
  obtain ⟨rfl, hsz, hP, hK, hD0⟩ := hv
  have hts := atoms_spec (ws := Cond.code y_P_at b_P_at 3 (some .long) :: lw_g) B.pre
  subst hsz
  have hD := hD0.self (sz := s.heap.size)
  have hl := lv_entry ([.ref (a 10), .long x1]) (n := 3) (Nat.le_of_ble_eq_true rfl)
  rw [lg_entry_eq]
  generalize (lg_sl ([.ref (a 10), .long x1]) ++ List.replicate (3 - (lg_sl ([.ref (a 10), .long x1])).length) Slot.unset).toArray = ls at hl ⊢
  exact k_P_at_0 ⟨B.exec, B.bytes, B.returns, hml, findClass_of_methodNamed B.named, fun w hw => hts w (List.mem_cons_of_mem _ hw), B.notSynchronized, fun q h => Or.inr h, hK⟩ _ _ _ h _ _ _ hP hD va_S.rf hl

def rm_P_add : Room := { frames := 0, cells := 0, slots := 0, locals := 0 }
def qc_P_add (D : va_G) (A : Nat → Prop) (a : Nat → Nat) (k : Nat → ClassId) (sp : Nat → Int64) (qr : Nat) (qs : Nat) (r : (Nat → Int64)) : Array Value → State → Outcome → State → Prop := va_Qv (fun (_ : Unit) => True) (poW D [(k 11, .long)] (wP a k r sp qr qs) A) A
def J_P_add_0 (x1 : Int32) (x2 : Int64) (ro : Nat → Int64) : Option ((Nat → Int64)) :=
  (if x1 < (-66 : Int32) then some (ro) else (if (66 : Int32) < x1 then some (ro) else (if inb (x1 + (66 : Int32)) 133 then (if inb (x1 + (66 : Int32)) 133 then some ((vp_updL ro (x1 + (66 : Int32)).toNatClampNeg ((ro (x1 + (66 : Int32)).toNatClampNeg) + x2))) else none) else none)))
def F_P_add (x1 : Int32) (x2 : Int64) (ro : Nat → Int64) : Option ((Nat → Int64)) := J_P_add_0 x1 x2 ro
def H_P_add_0 (p : Program) (l : Launch) (e : Env) (s : State) (m : MethodId) (args : Array Value) (below : List Frame) (meth : Method) (c : Code) (D : va_G) (A : Nat → Prop) (a : Nat → Nat) (k : Nat → ClassId) (sp : Nat → Int64) (qr : Nat) (qs : Nat) (f : Int32 → Int64 → (Nat → Int64) → Option ((Nat → Int64))) : Prop := ∀ (x1 : Int32) (x2 : Int64) (ro : Nat → Int64) (r : (Nat → Int64)), f x1 x2 ro = some r → ∀ (H : Heap) (locs : List Loc) (ls : Array Slot), va_P D classes (wP a k ro sp qr qs) H → va_D A (wP a k ro sp qr qs) → va_S A s.heap H locs → lv_has ls 4 [(0, .ref (a 10)), (1, .int x1), (2, .long x2)] → W p l e (rm_P_add) s m args below meth c H locs 0 0 (MQ below (qc_P_add D A a k sp qr qs r) args s 0 0 A) (F0 m 0 ls [])
set_option maxHeartbeats 4000000 in
set_option maxRecDepth 100000 in
theorem k_P_add_0 {p : Program} {l : Launch} {e : Env} {s : State} {m : MethodId} {args : Array Value} {below : List Frame} {meth : Method} {c : Code} {D : va_G} {A : Nat → Prop} {a : Nat → Nat} {k : Nat → ClassId} {sp : Nat → Int64} {qr : Nat} {qs : Nat} (C : cx D [(k 11, .long)] R_P b_P_add 4 none A p s m args meth c) : H_P_add_0 p l e s m args below meth c D A a k sp qr qs (J_P_add_0) := by
  obtain ⟨hx, hb, hr, hml, hown, ht, hlk, hA, hK⟩ := id C
  intro x1 x2 ro r h H locs ls hP hD hS hl
  unfold J_P_add_0 at h
  refine lv_iload_n hx hb d_P_add_0 rfl (lv_at hl 1 rfl) ?_
  refine lv_bipush (v := (-66)) hx hb d_P_add_1 (by decide) ?_
  refine lv_icmp_lt (tgt := 25) hx hb d_P_add_3 (by decide) (fun c_1 => ?_) (fun c_1 => ?_)
  · have h := ite_T c_1 h
    cases h
    exact W.vret hx hb hr (fun t ht hW => ⟨⟨(), rfl, trivial, by rw [ht]; exact hP, va_K.moved hW.alike hK, hD⟩, hS.F ht⟩) hS.2.2 d_P_add_25 hlk
  · have h := ite_F c_1 h
    refine lv_iload_n hx hb d_P_add_6 rfl (lv_at hl 1 rfl) ?_
    refine lv_bipush (v := 66) hx hb d_P_add_7 (by decide) ?_
    refine lv_icmp_gt (tgt := 25) hx hb d_P_add_9 (by decide) (fun c_2 => ?_) (fun c_2 => ?_)
    · have h := ite_T c_2 h
      cases h
      exact W.vret hx hb hr (fun t ht hW => ⟨⟨(), rfl, trivial, by rw [ht]; exact hP, va_K.moved hW.alike hK, hD⟩, hS.F ht⟩) hS.2.2 d_P_add_25 hlk
    · have h := ite_F c_2 h
      refine lv_aload_n hx hb d_P_add_12 rfl (lv_at hl 0 rfl) ?_
      refine va_get (D := D) (ci := 2) (v := .ref qr) (C := R_P) (T := F_P) (N := 2) hx hb ht iC_P hown hK hP 0 rfl rfl 0 (by decide) (ht _ ix_22) (fun _ h9 => h9) rfl d_P_add_13 ?_
      refine lv_iload_n hx hb d_P_add_16 rfl (lv_at hl 1 rfl) ?_
      refine lv_bipush (v := 66) hx hb d_P_add_17 (by decide) ?_
      refine lv_iadd hx hb d_P_add_19 ?_
      refine lv_dup2_11 hx hb d_P_add_20 rfl rfl ?_
      obtain ⟨g_3, h⟩ := gd_some h
      refine va_lald hx hb hK hP 1 0 rfl rfl (inb_in g_3) d_P_add_21 ?_
      refine lv_lload_n hx hb d_P_add_22 rfl (lv_at hl 2 rfl) ?_
      refine lv_ladd hx hb d_P_add_23 ?_
      obtain ⟨g_4, h⟩ := gd_some h
      refine va_last hx hb hK hP hD hS 1 0 rfl rfl (inb_in g_4) d_P_add_24 (fun H locs hP hD hS => ?_)
      have hP : va_P D classes (wP a k (vp_updL ro (x1 + (66 : Int32)).toNatClampNeg ((ro (x1 + (66 : Int32)).toNatClampNeg) + x2)) sp qr qs) H := hP
      have hD : va_D A (wP a k (vp_updL ro (x1 + (66 : Int32)).toNatClampNeg ((ro (x1 + (66 : Int32)).toNatClampNeg) + x2)) sp qr qs) := hD
      cases h
      exact W.vret hx hb hr (fun t ht hW => ⟨⟨(), rfl, trivial, by rw [ht]; exact hP, va_K.moved hW.alike hK, hD⟩, hS.F ht⟩) hS.2.2 d_P_add_25 hlk
set_option maxRecDepth 20000 in
theorem c_P_add (l : Launch) (D : va_G) (a : Nat → Nat) (k : Nat → ClassId) (sz : Nat) (x1 : Int32) (x2 : Int64) (ro : Nat → Int64) (sp : Nat → Int64) (qr : Nat) (qs : Nat) (r : (Nat → Int64)) (h : F_P_add x1 x2 ro = some r) : Met l y_P_add (Cond.code y_P_add b_P_add 4 none :: lw_g) (rm_P_add) (va_Pc [.ref (a 10), .int x1, .long x2] (pcW D [(k 11, .long)] (wP a k ro sp qr qs) sz)) (qc_P_add D (va_A (wP a k ro sp qr qs) sz) a k sp qr qs r) 0 0 (va_A (wP a k ro sp qr qs) sz) := by
  refine Met.ofW (cc := b_P_add) (maxL := 4) (ret := none) (by decide) rfl ?_
  intro p e s m args below meth c s₁ B hml hv
  obtain ⟨rfl, hsz, hP, hK, hD0⟩ := hv
  have hts := atoms_spec (ws := Cond.code y_P_add b_P_add 4 none :: lw_g) B.pre
  subst hsz
  have hD := hD0.self (sz := s.heap.size)
  have hl := lv_entry ([.ref (a 10), .int x1, .long x2]) (n := 4) (Nat.le_of_ble_eq_true rfl)
  rw [lg_entry_eq]
  generalize (lg_sl ([.ref (a 10), .int x1, .long x2]) ++ List.replicate (4 - (lg_sl ([.ref (a 10), .int x1, .long x2])).length) Slot.unset).toArray = ls at hl ⊢
  exact k_P_add_0 ⟨B.exec, B.bytes, B.returns, hml, findClass_of_methodNamed B.named, fun w hw => hts w (List.mem_cons_of_mem _ hw), B.notSynchronized, fun q h => Or.inr h, hK⟩ _ _ _ _ h _ _ _ hP hD va_S.rf hl

def rm_P_timesD : Room := { frames := 1, cells := 0, slots := 0, locals := 22 }
def qc_P_timesD (D : va_G) (A : Nat → Prop) (a : Nat → Nat) (k : Nat → ClassId) (r : (Nat → Int64) × (Nat → Int64) × Nat × Nat) : Array Value → State → Outcome → State → Prop := va_Qv (fun (_ : Unit) => True) (poW D [(k 11, .long)] (wP a k r.1 r.2.1 r.2.2.1 r.2.2.2) A) A
def J_P_timesD_3 (rec3 : Int32 → (Nat → Int64) → (Nat → Int64) → Nat → Nat → Option ((Nat → Int64) × (Nat → Int64) × Nat × Nat)) (x1 : Int32) (ro : Nat → Int64) (sp : Nat → Int64) (qr : Nat) (qs : Nat) : Option ((Nat → Int64) × (Nat → Int64) × Nat × Nat) :=
  (if (66 : Int32) < x1 then some (sp, ro, qs, qr) else (Option.bind (F_P_at (((x1 - (2 : Int32))).toInt64) ro) (fun v_2 => (Option.bind (F_P_at (((x1 + (2 : Int32))).toInt64) ro) (fun v_3 => (if inb (x1 + (66 : Int32)) 133 then rec3 (x1 + 1) ro (vp_updL sp (x1 + (66 : Int32)).toNatClampNeg ((-v_2) - v_3)) qr qs else none))))))
def L_P_timesD_3 : Nat → Int32 → (Nat → Int64) → (Nat → Int64) → Nat → Nat → Option ((Nat → Int64) × (Nat → Int64) × Nat × Nat)
  | 0 => fun _ _ _ _ _ => none
  | n + 1 => J_P_timesD_3 (L_P_timesD_3 n)
def J_P_timesD_0 (ro : Nat → Int64) (sp : Nat → Int64) (qr : Nat) (qs : Nat) : Option ((Nat → Int64) × (Nat → Int64) × Nat × Nat) :=
  L_P_timesD_3 fu (-66 : Int32) ro sp qr qs
def F_P_timesD (ro : Nat → Int64) (sp : Nat → Int64) (qr : Nat) (qs : Nat) : Option ((Nat → Int64) × (Nat → Int64) × Nat × Nat) := J_P_timesD_0 ro sp qr qs
def H_P_timesD_3 (p : Program) (l : Launch) (e : Env) (s : State) (m : MethodId) (args : Array Value) (below : List Frame) (meth : Method) (c : Code) (D : va_G) (A : Nat → Prop) (a : Nat → Nat) (k : Nat → ClassId) (f : Int32 → (Nat → Int64) → (Nat → Int64) → Nat → Nat → Option ((Nat → Int64) × (Nat → Int64) × Nat × Nat)) : Prop := ∀ (x1 : Int32) (ro : Nat → Int64) (sp : Nat → Int64) (qr : Nat) (qs : Nat) (r : (Nat → Int64) × (Nat → Int64) × Nat × Nat), f x1 ro sp qr qs = some r → ∀ (H : Heap) (locs : List Loc) (ls : Array Slot), va_P D classes (wP a k ro sp qr qs) H → va_D A (wP a k ro sp qr qs) → va_S A s.heap H locs → lv_has ls 2 [(0, .ref (a 10)), (1, .int x1)] → W p l e (rm_P_timesD) s m args below meth c H locs 0 0 (MQ below (qc_P_timesD D A a k r) args s 0 0 A) (F0 m 3 ls [])
def H_P_timesD_0 (p : Program) (l : Launch) (e : Env) (s : State) (m : MethodId) (args : Array Value) (below : List Frame) (meth : Method) (c : Code) (D : va_G) (A : Nat → Prop) (a : Nat → Nat) (k : Nat → ClassId) (f : (Nat → Int64) → (Nat → Int64) → Nat → Nat → Option ((Nat → Int64) × (Nat → Int64) × Nat × Nat)) : Prop := ∀ (ro : Nat → Int64) (sp : Nat → Int64) (qr : Nat) (qs : Nat) (r : (Nat → Int64) × (Nat → Int64) × Nat × Nat), f ro sp qr qs = some r → ∀ (H : Heap) (locs : List Loc) (ls : Array Slot), va_P D classes (wP a k ro sp qr qs) H → va_D A (wP a k ro sp qr qs) → va_S A s.heap H locs → lv_has ls 2 [(0, .ref (a 10))] → W p l e (rm_P_timesD) s m args below meth c H locs 0 0 (MQ below (qc_P_timesD D A a k r) args s 0 0 A) (F0 m 0 ls [])
set_option maxHeartbeats 4000000 in
set_option maxRecDepth 100000 in
theorem k_P_timesD_3 {p : Program} {l : Launch} {e : Env} {s : State} {m : MethodId} {args : Array Value} {below : List Frame} {meth : Method} {c : Code} {D : va_G} {A : Nat → Prop} {a : Nat → Nat} {k : Nat → ClassId} {rec3 : Int32 → (Nat → Int64) → (Nat → Int64) → Nat → Nat → Option ((Nat → Int64) × (Nat → Int64) × Nat × Nat)} (C : cx D [(k 11, .long)] R_P b_P_timesD 2 none A p s m args meth c) (hrec3 : H_P_timesD_3 p l e s m args below meth c D A a k rec3) : H_P_timesD_3 p l e s m args below meth c D A a k (J_P_timesD_3 rec3) := by
  obtain ⟨hx, hb, hr, hml, hown, ht, hlk, hA, hK⟩ := id C
  intro x1 ro sp qr qs r h H locs ls hP hD hS hl
  unfold J_P_timesD_3 at h
  refine lv_iload_n hx hb d_P_timesD_3 rfl (lv_at hl 1 rfl) ?_
  refine lv_bipush (v := 66) hx hb d_P_timesD_4 (by decide) ?_
  refine lv_icmp_gt (tgt := 42) hx hb d_P_timesD_6 (by decide) (fun c_1 => ?_) (fun c_1 => ?_)
  · have h := ite_T c_1 h
    refine lv_aload_n hx hb d_P_timesD_42 rfl (lv_at hl 0 rfl) ?_
    refine va_get (D := D) (ci := 2) (v := .ref qs) (C := R_P) (T := F_P) (N := 2) hx hb ht iC_P hown hK hP 0 rfl rfl 1 (by decide) (ht _ ix_28) (fun _ h9 => h9) rfl d_P_timesD_43 ?_
    refine lv_astore_n (lv' := [(1, .ref qs), (0, .ref (a 10))]) hx hb d_P_timesD_46 rfl hl (by decide) rfl (fun ls hl => ?_)
    refine lv_aload_n hx hb d_P_timesD_47 rfl (lv_at hl 1 rfl) ?_
    refine lv_aload_n hx hb d_P_timesD_48 rfl (lv_at hl 1 rfl) ?_
    refine va_get (D := D) (ci := 2) (v := .ref qr) (C := R_P) (T := F_P) (N := 2) hx hb ht iC_P hown hK hP 0 rfl rfl 0 (by decide) (ht _ ix_22) (fun _ h9 => h9) rfl d_P_timesD_49 ?_
    refine va_put (D := D) (ci := 2) (v := .ref qr) (ty := (.array .long)) (C := R_P) (T := F_P) (N := 2) hx hb ht iC_P t_P t_P_ok n_P hown hK hP hD hS 0 rfl rfl 1 (by decide) (ht _ ix_28) (fun _ h9 => h9) rfl (by decide +kernel) rfl rfl (Nat.le_of_ble_eq_true rfl) d_P_timesD_52 (fun H locs hP hD hS => ?_)
    have hP : va_P D classes [((a 10), .inr (2, [.ref qr, .ref qr])), (qr, .inl (k 11, 133, .inr (.inl ro))), (qs, .inl (k 11, 133, .inr (.inl sp)))] H := hP
    have hD : va_D A [((a 10), .inr (2, [.ref qr, .ref qr])), (qr, .inl (k 11, 133, .inr (.inl ro))), (qs, .inl (k 11, 133, .inr (.inl sp)))] := hD
    refine lv_aload_n hx hb d_P_timesD_55 rfl (lv_at hl 1 rfl) ?_
    refine lv_aload_n hx hb d_P_timesD_56 rfl (lv_at hl 0 rfl) ?_
    refine va_put (D := D) (ci := 2) (v := .ref qs) (ty := (.array .long)) (C := R_P) (T := F_P) (N := 2) hx hb ht iC_P t_P t_P_ok n_P hown hK hP hD hS 0 rfl rfl 0 (by decide) (ht _ ix_22) (fun _ h9 => h9) rfl (by decide +kernel) rfl rfl (Nat.le_of_ble_eq_true rfl) d_P_timesD_57 (fun H locs hP hD hS => ?_)
    have hP : va_P D classes [((a 10), .inr (2, [.ref qs, .ref qr])), (qr, .inl (k 11, 133, .inr (.inl ro))), (qs, .inl (k 11, 133, .inr (.inl sp)))] H := hP
    have hD : va_D A [((a 10), .inr (2, [.ref qs, .ref qr])), (qr, .inl (k 11, 133, .inr (.inl ro))), (qs, .inl (k 11, 133, .inr (.inl sp)))] := hD
    have hP := hP.sub (ws' := (wP a k sp ro qs qr)) [0, 2, 1] rfl
    have hD := hD.sub (ws' := (wP a k sp ro qs qr)) [0, 2, 1] (by decide) rfl
    cases h
    exact W.vret hx hb hr (fun t ht hW => ⟨⟨(), rfl, trivial, by rw [ht]; exact hP, va_K.moved hW.alike hK, hD⟩, hS.F ht⟩) hS.2.2 d_P_timesD_60 hlk
  · have h := ite_F c_1 h
    refine lv_aload_n hx hb d_P_timesD_9 rfl (lv_at hl 0 rfl) ?_
    refine va_get (D := D) (ci := 2) (v := .ref qs) (C := R_P) (T := F_P) (N := 2) hx hb ht iC_P hown hK hP 0 rfl rfl 1 (by decide) (ht _ ix_28) (fun _ h9 => h9) rfl d_P_timesD_10 ?_
    refine lv_iload_n hx hb d_P_timesD_13 rfl (lv_at hl 1 rfl) ?_
    refine lv_bipush (v := 66) hx hb d_P_timesD_14 (by decide) ?_
    refine lv_iadd hx hb d_P_timesD_16 ?_
    refine lv_aload_n hx hb d_P_timesD_17 rfl (lv_at hl 0 rfl) ?_
    refine lv_iload_n hx hb d_P_timesD_18 rfl (lv_at hl 1 rfl) ?_
    refine lv_iconst (v := 2) hx hb d_P_timesD_19 (by decide) ?_
    refine lv_isub hx hb d_P_timesD_20 ?_
    refine lv_i2l (v := ((x1 - (2 : Int32))).toInt64) hx hb d_P_timesD_21 rfl ?_
    obtain ⟨v_2, e_2, h⟩ := bd_some h
    refine go_Vl (r := v_2) (As := [.long (((x1 - (2 : Int32))).toInt64)]) (rest := [.int (x1 + (66 : Int32)), .ref qs]) (wc := (wP a k ro sp qr qs)) (wr := []) (w1 := (wP a k ro sp qr qs)) (w2 := (wP a k ro sp qr qs)) (tc := [(k 11, .long)]) hx hb hml hown ht (c_P_at l D a k H.size (((x1 - (2 : Int32))).toInt64) ro sp qr qs v_2 e_2) g_P_28 ⟨rfl, rfl⟩ (n := 1) (by decide +kernel) ⟨(Nat.le_of_ble_eq_true rfl), (Nat.le_of_ble_eq_true rfl)⟩ hP hD hK hS hA ⟨Nat.zero_le _, Nat.zero_le _⟩ [0, 1, 2] [] [0] [0, 1, 2] rfl rfl rfl rfl (by decide) (by decide) (by decide) rfl (by decide) 0 rfl rfl rfl rfl rfl hl.1 (Nat.le_of_ble_eq_true rfl) d_P_timesD_22 (fun H locs hP hD hS => ?_)
    refine lv_lneg hx hb d_P_timesD_25 ?_
    refine lv_aload_n hx hb d_P_timesD_26 rfl (lv_at hl 0 rfl) ?_
    refine lv_iload_n hx hb d_P_timesD_27 rfl (lv_at hl 1 rfl) ?_
    refine lv_iconst (v := 2) hx hb d_P_timesD_28 (by decide) ?_
    refine lv_iadd hx hb d_P_timesD_29 ?_
    refine lv_i2l (v := ((x1 + (2 : Int32))).toInt64) hx hb d_P_timesD_30 rfl ?_
    obtain ⟨v_3, e_3, h⟩ := bd_some h
    refine go_Vl (r := v_3) (As := [.long (((x1 + (2 : Int32))).toInt64)]) (rest := [.long (-v_2), .int (x1 + (66 : Int32)), .ref qs]) (wc := (wP a k ro sp qr qs)) (wr := []) (w1 := (wP a k ro sp qr qs)) (w2 := (wP a k ro sp qr qs)) (tc := [(k 11, .long)]) hx hb hml hown ht (c_P_at l D a k H.size (((x1 + (2 : Int32))).toInt64) ro sp qr qs v_3 e_3) g_P_28 ⟨rfl, rfl⟩ (n := 1) (by decide +kernel) ⟨(Nat.le_of_ble_eq_true rfl), (Nat.le_of_ble_eq_true rfl)⟩ hP hD hK hS hA ⟨Nat.zero_le _, Nat.zero_le _⟩ [0, 1, 2] [] [0] [0, 1, 2] rfl rfl rfl rfl (by decide) (by decide) (by decide) rfl (by decide) 0 rfl rfl rfl rfl rfl hl.1 (Nat.le_of_ble_eq_true rfl) d_P_timesD_31 (fun H locs hP hD hS => ?_)
    refine lv_lsub hx hb d_P_timesD_34 ?_
    obtain ⟨g_4, h⟩ := gd_some h
    refine va_last hx hb hK hP hD hS 2 0 rfl rfl (inb_in g_4) d_P_timesD_35 (fun H locs hP hD hS => ?_)
    have hP : va_P D classes (wP a k ro (vp_updL sp (x1 + (66 : Int32)).toNatClampNeg ((-v_2) - v_3)) qr qs) H := hP
    have hD : va_D A (wP a k ro (vp_updL sp (x1 + (66 : Int32)).toNatClampNeg ((-v_2) - v_3)) qr qs) := hD
    refine lv_iinc (v := x1 + 1) (lv' := [(1, .int (x1 + 1)), (0, .ref (a 10))]) hx hb d_P_timesD_36 hl (k := 1) rfl rfl (by decide) rfl (fun ls hl => ?_)
    refine lv_goto (tgt := 3) hx hb d_P_timesD_39 (by decide) ?_
    exact hrec3 _ _ _ _ _ _ h _ _ _ hP hD hS (lv_sub hl [1, 0] rfl)
theorem k_P_timesD_3_L {p : Program} {l : Launch} {e : Env} {s : State} {m : MethodId} {args : Array Value} {below : List Frame} {meth : Method} {c : Code} {D : va_G} {A : Nat → Prop} {a : Nat → Nat} {k : Nat → ClassId} (C : cx D [(k 11, .long)] R_P b_P_timesD 2 none A p s m args meth c) : ∀ n : Nat, H_P_timesD_3 p l e s m args below meth c D A a k (L_P_timesD_3 n)
  | 0 => fun _ _ _ _ _ _ h => nomatch h
  | n + 1 => k_P_timesD_3 C (k_P_timesD_3_L C n)
set_option maxHeartbeats 4000000 in
set_option maxRecDepth 100000 in
theorem k_P_timesD_0 {p : Program} {l : Launch} {e : Env} {s : State} {m : MethodId} {args : Array Value} {below : List Frame} {meth : Method} {c : Code} {D : va_G} {A : Nat → Prop} {a : Nat → Nat} {k : Nat → ClassId} (C : cx D [(k 11, .long)] R_P b_P_timesD 2 none A p s m args meth c) : H_P_timesD_0 p l e s m args below meth c D A a k (J_P_timesD_0) := by
  obtain ⟨hx, hb, hr, hml, hown, ht, hlk, hA, hK⟩ := id C
  intro ro sp qr qs r h H locs ls hP hD hS hl
  unfold J_P_timesD_0 at h
  refine lv_bipush (v := (-66)) hx hb d_P_timesD_0 (by decide) ?_
  refine lv_istore_n (lv' := [(1, .int (-66 : Int32)), (0, .ref (a 10))]) hx hb d_P_timesD_2 rfl hl (by decide) rfl (fun ls hl => ?_)
  exact (k_P_timesD_3_L C fu) _ _ _ _ _ _ h _ _ _ hP hD hS (lv_sub hl [1, 0] rfl)
set_option maxRecDepth 20000 in
theorem c_P_timesD (l : Launch) (D : va_G) (a : Nat → Nat) (k : Nat → ClassId) (sz : Nat) (ro : Nat → Int64) (sp : Nat → Int64) (qr : Nat) (qs : Nat) (r : (Nat → Int64) × (Nat → Int64) × Nat × Nat) (h : F_P_timesD ro sp qr qs = some r) : Met l y_P_timesD (Cond.code y_P_timesD b_P_timesD 2 none :: lw_g) (rm_P_timesD) (va_Pc [.ref (a 10)] (pcW D [(k 11, .long)] (wP a k ro sp qr qs) sz)) (qc_P_timesD D (va_A (wP a k ro sp qr qs) sz) a k r) 0 0 (va_A (wP a k ro sp qr qs) sz) := by
  refine Met.ofW (cc := b_P_timesD) (maxL := 2) (ret := none) (by decide) rfl ?_
  intro p e s m args below meth c s₁ B hml hv
  obtain ⟨rfl, hsz, hP, hK, hD0⟩ := hv
  have hts := atoms_spec (ws := Cond.code y_P_timesD b_P_timesD 2 none :: lw_g) B.pre
  subst hsz
  have hD := hD0.self (sz := s.heap.size)
  have hl := lv_entry ([.ref (a 10)]) (n := 2) (Nat.le_of_ble_eq_true rfl)
  rw [lg_entry_eq]
  generalize (lg_sl ([.ref (a 10)]) ++ List.replicate (2 - (lg_sl ([.ref (a 10)])).length) Slot.unset).toArray = ls at hl ⊢
  exact k_P_timesD_0 ⟨B.exec, B.bytes, B.returns, hml, findClass_of_methodNamed B.named, fun w hw => hts w (List.mem_cons_of_mem _ hw), B.notSynchronized, fun q h => Or.inr h, hK⟩ _ _ _ _ _ h _ _ _ hP hD va_S.rf hl

def rm_P_least : Room := { frames := 0, cells := 0, slots := 0, locals := 0 }
def qc_P_least (D : va_G) (A : Nat → Prop) (a : Nat → Nat) (k : Nat → ClassId) (ro : Nat → Int64) (sp : Nat → Int64) (qr : Nat) (qs : Nat) (r : Int32) : Array Value → State → Outcome → State → Prop := va_Qi (fun (r1 : Int32) (_ : Unit) => r1 = r) (poW D [(k 11, .long)] (wP a k ro sp qr qs) A) A
def J_P_least_3 (rec3 : Int32 → (Nat → Int64) → Option (Int32)) (x1 : Int32) (ro : Nat → Int64) : Option (Int32) :=
  (if (66 : Int32) < x1 then some ((0 : Int32)) else (if inb (x1 + (66 : Int32)) 133 then (if (lg_cmp (ro (x1 + (66 : Int32)).toNatClampNeg) (0 : Int64)) = 0 then rec3 (x1 + 1) ro else some (x1)) else none))
def L_P_least_3 : Nat → Int32 → (Nat → Int64) → Option (Int32)
  | 0 => fun _ _ => none
  | n + 1 => J_P_least_3 (L_P_least_3 n)
def J_P_least_0 (ro : Nat → Int64) : Option (Int32) :=
  L_P_least_3 fu (-66 : Int32) ro
def F_P_least (ro : Nat → Int64) : Option (Int32) := J_P_least_0 ro
def H_P_least_3 (p : Program) (l : Launch) (e : Env) (s : State) (m : MethodId) (args : Array Value) (below : List Frame) (meth : Method) (c : Code) (D : va_G) (A : Nat → Prop) (a : Nat → Nat) (k : Nat → ClassId) (sp : Nat → Int64) (qr : Nat) (qs : Nat) (f : Int32 → (Nat → Int64) → Option (Int32)) : Prop := ∀ (x1 : Int32) (ro : Nat → Int64) (r : Int32), f x1 ro = some r → ∀ (H : Heap) (locs : List Loc) (ls : Array Slot), va_P D classes (wP a k ro sp qr qs) H → va_D A (wP a k ro sp qr qs) → va_S A s.heap H locs → lv_has ls 2 [(0, .ref (a 10)), (1, .int x1)] → W p l e (rm_P_least) s m args below meth c H locs 0 0 (MQ below (qc_P_least D A a k ro sp qr qs r) args s 0 0 A) (F0 m 3 ls [])
def H_P_least_0 (p : Program) (l : Launch) (e : Env) (s : State) (m : MethodId) (args : Array Value) (below : List Frame) (meth : Method) (c : Code) (D : va_G) (A : Nat → Prop) (a : Nat → Nat) (k : Nat → ClassId) (sp : Nat → Int64) (qr : Nat) (qs : Nat) (f : (Nat → Int64) → Option (Int32)) : Prop := ∀ (ro : Nat → Int64) (r : Int32), f ro = some r → ∀ (H : Heap) (locs : List Loc) (ls : Array Slot), va_P D classes (wP a k ro sp qr qs) H → va_D A (wP a k ro sp qr qs) → va_S A s.heap H locs → lv_has ls 2 [(0, .ref (a 10))] → W p l e (rm_P_least) s m args below meth c H locs 0 0 (MQ below (qc_P_least D A a k ro sp qr qs r) args s 0 0 A) (F0 m 0 ls [])
set_option maxHeartbeats 4000000 in
set_option maxRecDepth 100000 in
theorem k_P_least_3 {p : Program} {l : Launch} {e : Env} {s : State} {m : MethodId} {args : Array Value} {below : List Frame} {meth : Method} {c : Code} {D : va_G} {A : Nat → Prop} {a : Nat → Nat} {k : Nat → ClassId} {sp : Nat → Int64} {qr : Nat} {qs : Nat} {rec3 : Int32 → (Nat → Int64) → Option (Int32)} (C : cx D [(k 11, .long)] R_P b_P_least 2 (some .int) A p s m args meth c) (hrec3 : H_P_least_3 p l e s m args below meth c D A a k sp qr qs rec3) : H_P_least_3 p l e s m args below meth c D A a k sp qr qs (J_P_least_3 rec3) := by
  obtain ⟨hx, hb, hr, hml, hown, ht, hlk, hA, hK⟩ := id C
  intro x1 ro r h H locs ls hP hD hS hl
  unfold J_P_least_3 at h
  refine lv_iload_n hx hb d_P_least_3 rfl (lv_at hl 1 rfl) ?_
  refine lv_bipush (v := 66) hx hb d_P_least_4 (by decide) ?_
  refine lv_icmp_gt (tgt := 31) hx hb d_P_least_6 (by decide) (fun c_1 => ?_) (fun c_1 => ?_)
  · have h := ite_T c_1 h
    refine lv_iconst (v := 0) hx hb d_P_least_31 (by decide) ?_
    cases h
    exact W.iret hx hb hr (fun t ht hW => ⟨⟨_, (), rfl, rfl, by rw [ht]; exact hP, va_K.moved hW.alike hK, hD⟩, hS.F ht⟩) hS.2.2 d_P_least_32 hlk
  · have h := ite_F c_1 h
    refine lv_aload_n hx hb d_P_least_9 rfl (lv_at hl 0 rfl) ?_
    refine va_get (D := D) (ci := 2) (v := .ref qr) (C := R_P) (T := F_P) (N := 2) hx hb ht iC_P hown hK hP 0 rfl rfl 0 (by decide) (ht _ ix_22) (fun _ h9 => h9) rfl d_P_least_10 ?_
    refine lv_iload_n hx hb d_P_least_13 rfl (lv_at hl 1 rfl) ?_
    refine lv_bipush (v := 66) hx hb d_P_least_14 (by decide) ?_
    refine lv_iadd hx hb d_P_least_16 ?_
    obtain ⟨g_2, h⟩ := gd_some h
    refine va_lald hx hb hK hP 1 0 rfl rfl (inb_in g_2) d_P_least_17 ?_
    refine lv_lconst (v := 0) hx hb d_P_least_18 (by decide) ?_
    refine W.lcmp hx hb d_P_least_19 ?_
    refine lv_if_eq (tgt := 25) hx hb d_P_least_20 (by decide) (fun c_3 => ?_) (fun c_3 => ?_)
    · have h := ite_T c_3 h
      refine lv_iinc (v := x1 + 1) (lv' := [(1, .int (x1 + 1)), (0, .ref (a 10))]) hx hb d_P_least_25 hl (k := 1) rfl rfl (by decide) rfl (fun ls hl => ?_)
      refine lv_goto (tgt := 3) hx hb d_P_least_28 (by decide) ?_
      exact hrec3 _ _ _ h _ _ _ hP hD hS (lv_sub hl [1, 0] rfl)
    · have h := ite_F c_3 h
      refine lv_iload_n hx hb d_P_least_23 rfl (lv_at hl 1 rfl) ?_
      cases h
      exact W.iret hx hb hr (fun t ht hW => ⟨⟨_, (), rfl, rfl, by rw [ht]; exact hP, va_K.moved hW.alike hK, hD⟩, hS.F ht⟩) hS.2.2 d_P_least_24 hlk
theorem k_P_least_3_L {p : Program} {l : Launch} {e : Env} {s : State} {m : MethodId} {args : Array Value} {below : List Frame} {meth : Method} {c : Code} {D : va_G} {A : Nat → Prop} {a : Nat → Nat} {k : Nat → ClassId} {sp : Nat → Int64} {qr : Nat} {qs : Nat} (C : cx D [(k 11, .long)] R_P b_P_least 2 (some .int) A p s m args meth c) : ∀ n : Nat, H_P_least_3 p l e s m args below meth c D A a k sp qr qs (L_P_least_3 n)
  | 0 => fun _ _ _ h => nomatch h
  | n + 1 => k_P_least_3 C (k_P_least_3_L C n)
set_option maxHeartbeats 4000000 in
set_option maxRecDepth 100000 in
theorem k_P_least_0 {p : Program} {l : Launch} {e : Env} {s : State} {m : MethodId} {args : Array Value} {below : List Frame} {meth : Method} {c : Code} {D : va_G} {A : Nat → Prop} {a : Nat → Nat} {k : Nat → ClassId} {sp : Nat → Int64} {qr : Nat} {qs : Nat} (C : cx D [(k 11, .long)] R_P b_P_least 2 (some .int) A p s m args meth c) : H_P_least_0 p l e s m args below meth c D A a k sp qr qs (J_P_least_0) := by
  obtain ⟨hx, hb, hr, hml, hown, ht, hlk, hA, hK⟩ := id C
  intro ro r h H locs ls hP hD hS hl
  unfold J_P_least_0 at h
  refine lv_bipush (v := (-66)) hx hb d_P_least_0 (by decide) ?_
  refine lv_istore_n (lv' := [(1, .int (-66 : Int32)), (0, .ref (a 10))]) hx hb d_P_least_2 rfl hl (by decide) rfl (fun ls hl => ?_)
  exact (k_P_least_3_L C fu) _ _ _ h _ _ _ hP hD hS (lv_sub hl [1, 0] rfl)
set_option maxRecDepth 20000 in
theorem c_P_least (l : Launch) (D : va_G) (a : Nat → Nat) (k : Nat → ClassId) (sz : Nat) (ro : Nat → Int64) (sp : Nat → Int64) (qr : Nat) (qs : Nat) (r : Int32) (h : F_P_least ro = some r) : Met l y_P_least (Cond.code y_P_least b_P_least 2 (some .int) :: lw_g) (rm_P_least) (va_Pc [.ref (a 10)] (pcW D [(k 11, .long)] (wP a k ro sp qr qs) sz)) (qc_P_least D (va_A (wP a k ro sp qr qs) sz) a k ro sp qr qs r) 0 0 (va_A (wP a k ro sp qr qs) sz) := by
  refine Met.ofW (cc := b_P_least) (maxL := 2) (ret := (some .int)) (by decide) rfl ?_
  intro p e s m args below meth c s₁ B hml hv
  obtain ⟨rfl, hsz, hP, hK, hD0⟩ := hv
  have hts := atoms_spec (ws := Cond.code y_P_least b_P_least 2 (some .int) :: lw_g) B.pre
  subst hsz
  have hD := hD0.self (sz := s.heap.size)
  have hl := lv_entry ([.ref (a 10)]) (n := 2) (Nat.le_of_ble_eq_true rfl)
  rw [lg_entry_eq]
  generalize (lg_sl ([.ref (a 10)]) ++ List.replicate (2 - (lg_sl ([.ref (a 10)])).length) Slot.unset).toArray = ls at hl ⊢
  exact k_P_least_0 ⟨B.exec, B.bytes, B.returns, hml, findClass_of_methodNamed B.named, fun w hw => hts w (List.mem_cons_of_mem _ hw), B.notSynchronized, fun q h => Or.inr h, hK⟩ _ _ h _ _ _ hP hD va_S.rf hl

def rm_P_greatest : Room := { frames := 0, cells := 0, slots := 0, locals := 0 }
def qc_P_greatest (D : va_G) (A : Nat → Prop) (a : Nat → Nat) (k : Nat → ClassId) (ro : Nat → Int64) (sp : Nat → Int64) (qr : Nat) (qs : Nat) (r : Int32) : Array Value → State → Outcome → State → Prop := va_Qi (fun (r1 : Int32) (_ : Unit) => r1 = r) (poW D [(k 11, .long)] (wP a k ro sp qr qs) A) A
def J_P_greatest_3 (rec3 : Int32 → (Nat → Int64) → Option (Int32)) (x1 : Int32) (ro : Nat → Int64) : Option (Int32) :=
  (if x1 < (-66 : Int32) then some ((0 : Int32)) else (if inb (x1 + (66 : Int32)) 133 then (if (lg_cmp (ro (x1 + (66 : Int32)).toNatClampNeg) (0 : Int64)) = 0 then rec3 (x1 + (-1)) ro else some (x1)) else none))
def L_P_greatest_3 : Nat → Int32 → (Nat → Int64) → Option (Int32)
  | 0 => fun _ _ => none
  | n + 1 => J_P_greatest_3 (L_P_greatest_3 n)
def J_P_greatest_0 (ro : Nat → Int64) : Option (Int32) :=
  L_P_greatest_3 fu (66 : Int32) ro
def F_P_greatest (ro : Nat → Int64) : Option (Int32) := J_P_greatest_0 ro
def H_P_greatest_3 (p : Program) (l : Launch) (e : Env) (s : State) (m : MethodId) (args : Array Value) (below : List Frame) (meth : Method) (c : Code) (D : va_G) (A : Nat → Prop) (a : Nat → Nat) (k : Nat → ClassId) (sp : Nat → Int64) (qr : Nat) (qs : Nat) (f : Int32 → (Nat → Int64) → Option (Int32)) : Prop := ∀ (x1 : Int32) (ro : Nat → Int64) (r : Int32), f x1 ro = some r → ∀ (H : Heap) (locs : List Loc) (ls : Array Slot), va_P D classes (wP a k ro sp qr qs) H → va_D A (wP a k ro sp qr qs) → va_S A s.heap H locs → lv_has ls 2 [(0, .ref (a 10)), (1, .int x1)] → W p l e (rm_P_greatest) s m args below meth c H locs 0 0 (MQ below (qc_P_greatest D A a k ro sp qr qs r) args s 0 0 A) (F0 m 3 ls [])
def H_P_greatest_0 (p : Program) (l : Launch) (e : Env) (s : State) (m : MethodId) (args : Array Value) (below : List Frame) (meth : Method) (c : Code) (D : va_G) (A : Nat → Prop) (a : Nat → Nat) (k : Nat → ClassId) (sp : Nat → Int64) (qr : Nat) (qs : Nat) (f : (Nat → Int64) → Option (Int32)) : Prop := ∀ (ro : Nat → Int64) (r : Int32), f ro = some r → ∀ (H : Heap) (locs : List Loc) (ls : Array Slot), va_P D classes (wP a k ro sp qr qs) H → va_D A (wP a k ro sp qr qs) → va_S A s.heap H locs → lv_has ls 2 [(0, .ref (a 10))] → W p l e (rm_P_greatest) s m args below meth c H locs 0 0 (MQ below (qc_P_greatest D A a k ro sp qr qs r) args s 0 0 A) (F0 m 0 ls [])
set_option maxHeartbeats 4000000 in
set_option maxRecDepth 100000 in
theorem k_P_greatest_3 {p : Program} {l : Launch} {e : Env} {s : State} {m : MethodId} {args : Array Value} {below : List Frame} {meth : Method} {c : Code} {D : va_G} {A : Nat → Prop} {a : Nat → Nat} {k : Nat → ClassId} {sp : Nat → Int64} {qr : Nat} {qs : Nat} {rec3 : Int32 → (Nat → Int64) → Option (Int32)} (C : cx D [(k 11, .long)] R_P b_P_greatest 2 (some .int) A p s m args meth c) (hrec3 : H_P_greatest_3 p l e s m args below meth c D A a k sp qr qs rec3) : H_P_greatest_3 p l e s m args below meth c D A a k sp qr qs (J_P_greatest_3 rec3) := by
  obtain ⟨hx, hb, hr, hml, hown, ht, hlk, hA, hK⟩ := id C
  intro x1 ro r h H locs ls hP hD hS hl
  unfold J_P_greatest_3 at h
  refine lv_iload_n hx hb d_P_greatest_3 rfl (lv_at hl 1 rfl) ?_
  refine lv_bipush (v := (-66)) hx hb d_P_greatest_4 (by decide) ?_
  refine lv_icmp_lt (tgt := 31) hx hb d_P_greatest_6 (by decide) (fun c_1 => ?_) (fun c_1 => ?_)
  · have h := ite_T c_1 h
    refine lv_iconst (v := 0) hx hb d_P_greatest_31 (by decide) ?_
    cases h
    exact W.iret hx hb hr (fun t ht hW => ⟨⟨_, (), rfl, rfl, by rw [ht]; exact hP, va_K.moved hW.alike hK, hD⟩, hS.F ht⟩) hS.2.2 d_P_greatest_32 hlk
  · have h := ite_F c_1 h
    refine lv_aload_n hx hb d_P_greatest_9 rfl (lv_at hl 0 rfl) ?_
    refine va_get (D := D) (ci := 2) (v := .ref qr) (C := R_P) (T := F_P) (N := 2) hx hb ht iC_P hown hK hP 0 rfl rfl 0 (by decide) (ht _ ix_22) (fun _ h9 => h9) rfl d_P_greatest_10 ?_
    refine lv_iload_n hx hb d_P_greatest_13 rfl (lv_at hl 1 rfl) ?_
    refine lv_bipush (v := 66) hx hb d_P_greatest_14 (by decide) ?_
    refine lv_iadd hx hb d_P_greatest_16 ?_
    obtain ⟨g_2, h⟩ := gd_some h
    refine va_lald hx hb hK hP 1 0 rfl rfl (inb_in g_2) d_P_greatest_17 ?_
    refine lv_lconst (v := 0) hx hb d_P_greatest_18 (by decide) ?_
    refine W.lcmp hx hb d_P_greatest_19 ?_
    refine lv_if_eq (tgt := 25) hx hb d_P_greatest_20 (by decide) (fun c_3 => ?_) (fun c_3 => ?_)
    · have h := ite_T c_3 h
      refine lv_iinc (v := x1 + (-1)) (lv' := [(1, .int (x1 + (-1))), (0, .ref (a 10))]) hx hb d_P_greatest_25 hl (k := 1) rfl rfl (by decide) rfl (fun ls hl => ?_)
      refine lv_goto (tgt := 3) hx hb d_P_greatest_28 (by decide) ?_
      exact hrec3 _ _ _ h _ _ _ hP hD hS (lv_sub hl [1, 0] rfl)
    · have h := ite_F c_3 h
      refine lv_iload_n hx hb d_P_greatest_23 rfl (lv_at hl 1 rfl) ?_
      cases h
      exact W.iret hx hb hr (fun t ht hW => ⟨⟨_, (), rfl, rfl, by rw [ht]; exact hP, va_K.moved hW.alike hK, hD⟩, hS.F ht⟩) hS.2.2 d_P_greatest_24 hlk
theorem k_P_greatest_3_L {p : Program} {l : Launch} {e : Env} {s : State} {m : MethodId} {args : Array Value} {below : List Frame} {meth : Method} {c : Code} {D : va_G} {A : Nat → Prop} {a : Nat → Nat} {k : Nat → ClassId} {sp : Nat → Int64} {qr : Nat} {qs : Nat} (C : cx D [(k 11, .long)] R_P b_P_greatest 2 (some .int) A p s m args meth c) : ∀ n : Nat, H_P_greatest_3 p l e s m args below meth c D A a k sp qr qs (L_P_greatest_3 n)
  | 0 => fun _ _ _ h => nomatch h
  | n + 1 => k_P_greatest_3 C (k_P_greatest_3_L C n)
set_option maxHeartbeats 4000000 in
set_option maxRecDepth 100000 in
theorem k_P_greatest_0 {p : Program} {l : Launch} {e : Env} {s : State} {m : MethodId} {args : Array Value} {below : List Frame} {meth : Method} {c : Code} {D : va_G} {A : Nat → Prop} {a : Nat → Nat} {k : Nat → ClassId} {sp : Nat → Int64} {qr : Nat} {qs : Nat} (C : cx D [(k 11, .long)] R_P b_P_greatest 2 (some .int) A p s m args meth c) : H_P_greatest_0 p l e s m args below meth c D A a k sp qr qs (J_P_greatest_0) := by
  obtain ⟨hx, hb, hr, hml, hown, ht, hlk, hA, hK⟩ := id C
  intro ro r h H locs ls hP hD hS hl
  unfold J_P_greatest_0 at h
  refine lv_bipush (v := 66) hx hb d_P_greatest_0 (by decide) ?_
  refine lv_istore_n (lv' := [(1, .int (66 : Int32)), (0, .ref (a 10))]) hx hb d_P_greatest_2 rfl hl (by decide) rfl (fun ls hl => ?_)
  exact (k_P_greatest_3_L C fu) _ _ _ h _ _ _ hP hD hS (lv_sub hl [1, 0] rfl)
set_option maxRecDepth 20000 in
theorem c_P_greatest (l : Launch) (D : va_G) (a : Nat → Nat) (k : Nat → ClassId) (sz : Nat) (ro : Nat → Int64) (sp : Nat → Int64) (qr : Nat) (qs : Nat) (r : Int32) (h : F_P_greatest ro = some r) : Met l y_P_greatest (Cond.code y_P_greatest b_P_greatest 2 (some .int) :: lw_g) (rm_P_greatest) (va_Pc [.ref (a 10)] (pcW D [(k 11, .long)] (wP a k ro sp qr qs) sz)) (qc_P_greatest D (va_A (wP a k ro sp qr qs) sz) a k ro sp qr qs r) 0 0 (va_A (wP a k ro sp qr qs) sz) := by
  refine Met.ofW (cc := b_P_greatest) (maxL := 2) (ret := (some .int)) (by decide) rfl ?_
  intro p e s m args below meth c s₁ B hml hv
  obtain ⟨rfl, hsz, hP, hK, hD0⟩ := hv
  have hts := atoms_spec (ws := Cond.code y_P_greatest b_P_greatest 2 (some .int) :: lw_g) B.pre
  subst hsz
  have hD := hD0.self (sz := s.heap.size)
  have hl := lv_entry ([.ref (a 10)]) (n := 2) (Nat.le_of_ble_eq_true rfl)
  rw [lg_entry_eq]
  generalize (lg_sl ([.ref (a 10)]) ++ List.replicate (2 - (lg_sl ([.ref (a 10)])).length) Slot.unset).toArray = ls at hl ⊢
  exact k_P_greatest_0 ⟨B.exec, B.bytes, B.returns, hml, findClass_of_methodNamed B.named, fun w hw => hts w (List.mem_cons_of_mem _ hw), B.notSynchronized, fun q h => Or.inr h, hK⟩ _ _ h _ _ _ hP hD va_S.rf hl

def rm_P_isZero : Room := { frames := 1, cells := 0, slots := 0, locals := 21 }
def qc_P_isZero (D : va_G) (A : Nat → Prop) (a : Nat → Nat) (k : Nat → ClassId) (ro : Nat → Int64) (sp : Nat → Int64) (qr : Nat) (qs : Nat) (r : Int32) : Array Value → State → Outcome → State → Prop := va_Qi (fun (r1 : Int32) (_ : Unit) => r1 = r) (poW D [(k 11, .long)] (wP a k ro sp qr qs) A) A
def J_P_isZero_0 (ro : Nat → Int64) : Option (Int32) :=
  (Option.bind (F_P_least ro) (fun v_1 => (if inb (v_1 + (66 : Int32)) 133 then (if (lg_cmp (ro (v_1 + (66 : Int32)).toNatClampNeg) (0 : Int64)) = 0 then some ((1 : Int32)) else some ((0 : Int32))) else none)))
def F_P_isZero (ro : Nat → Int64) : Option (Int32) := J_P_isZero_0 ro
def H_P_isZero_0 (p : Program) (l : Launch) (e : Env) (s : State) (m : MethodId) (args : Array Value) (below : List Frame) (meth : Method) (c : Code) (D : va_G) (A : Nat → Prop) (a : Nat → Nat) (k : Nat → ClassId) (sp : Nat → Int64) (qr : Nat) (qs : Nat) (f : (Nat → Int64) → Option (Int32)) : Prop := ∀ (ro : Nat → Int64) (r : Int32), f ro = some r → ∀ (H : Heap) (locs : List Loc) (ls : Array Slot), va_P D classes (wP a k ro sp qr qs) H → va_D A (wP a k ro sp qr qs) → va_S A s.heap H locs → lv_has ls 1 [(0, .ref (a 10))] → W p l e (rm_P_isZero) s m args below meth c H locs 0 0 (MQ below (qc_P_isZero D A a k ro sp qr qs r) args s 0 0 A) (F0 m 0 ls [])
set_option maxHeartbeats 4000000 in
set_option maxRecDepth 100000 in
theorem k_P_isZero_0 {p : Program} {l : Launch} {e : Env} {s : State} {m : MethodId} {args : Array Value} {below : List Frame} {meth : Method} {c : Code} {D : va_G} {A : Nat → Prop} {a : Nat → Nat} {k : Nat → ClassId} {sp : Nat → Int64} {qr : Nat} {qs : Nat} (C : cx D [(k 11, .long)] R_P b_P_isZero 1 (some .boolean) A p s m args meth c) : H_P_isZero_0 p l e s m args below meth c D A a k sp qr qs (J_P_isZero_0) := by
  obtain ⟨hx, hb, hr, hml, hown, ht, hlk, hA, hK⟩ := id C
  intro ro r h H locs ls hP hD hS hl
  unfold J_P_isZero_0 at h
  refine lv_aload_n hx hb d_P_isZero_0 rfl (lv_at hl 0 rfl) ?_
  refine va_get (D := D) (ci := 2) (v := .ref qr) (C := R_P) (T := F_P) (N := 2) hx hb ht iC_P hown hK hP 0 rfl rfl 0 (by decide) (ht _ ix_22) (fun _ h9 => h9) rfl d_P_isZero_1 ?_
  refine lv_aload_n hx hb d_P_isZero_4 rfl (lv_at hl 0 rfl) ?_
  obtain ⟨v_1, e_1, h⟩ := bd_some h
  refine go_Vi (r := v_1) (As := []) (rest := [.ref qr]) (wc := (wP a k ro sp qr qs)) (wr := []) (w1 := (wP a k ro sp qr qs)) (w2 := (wP a k ro sp qr qs)) (tc := [(k 11, .long)]) hx hb hml hown ht (c_P_least l D a k H.size ro sp qr qs v_1 e_1) g_P_32 ⟨rfl, rfl⟩ (n := 0) (by decide +kernel) ⟨(Nat.le_of_ble_eq_true rfl), (Nat.le_of_ble_eq_true rfl)⟩ hP hD hK hS hA ⟨Nat.zero_le _, Nat.zero_le _⟩ [0, 1, 2] [] [0] [0, 1, 2] rfl rfl rfl rfl (by decide) (by decide) (by decide) rfl (by decide) 0 rfl rfl rfl rfl rfl hl.1 (Nat.le_of_ble_eq_true rfl) d_P_isZero_5 (fun H locs hP hD hS => ?_)
  refine lv_bipush (v := 66) hx hb d_P_isZero_8 (by decide) ?_
  refine lv_iadd hx hb d_P_isZero_10 ?_
  obtain ⟨g_2, h⟩ := gd_some h
  refine va_lald hx hb hK hP 1 0 rfl rfl (inb_in g_2) d_P_isZero_11 ?_
  refine lv_lconst (v := 0) hx hb d_P_isZero_12 (by decide) ?_
  refine W.lcmp hx hb d_P_isZero_13 ?_
  refine lv_if_ne (tgt := 21) hx hb d_P_isZero_14 (by decide) (fun c_3 => ?_) (fun c_3 => ?_)
  · have h := ite_F c_3 h
    refine lv_iconst (v := 0) hx hb d_P_isZero_21 (by decide) ?_
    cases h
    exact W.zret hx hb hr rfl (fun t ht hW => ⟨⟨_, (), rfl, rfl, by rw [ht]; exact hP, va_K.moved hW.alike hK, hD⟩, hS.F ht⟩) hS.2.2 d_P_isZero_22 hlk
  · have h := ite_T c_3 h
    refine lv_iconst (v := 1) hx hb d_P_isZero_17 (by decide) ?_
    refine lv_goto (tgt := 22) hx hb d_P_isZero_18 (by decide) ?_
    cases h
    exact W.zret hx hb hr rfl (fun t ht hW => ⟨⟨_, (), rfl, rfl, by rw [ht]; exact hP, va_K.moved hW.alike hK, hD⟩, hS.F ht⟩) hS.2.2 d_P_isZero_22 hlk
set_option maxRecDepth 20000 in
theorem c_P_isZero (l : Launch) (D : va_G) (a : Nat → Nat) (k : Nat → ClassId) (sz : Nat) (ro : Nat → Int64) (sp : Nat → Int64) (qr : Nat) (qs : Nat) (r : Int32) (h : F_P_isZero ro = some r) : Met l y_P_isZero (Cond.code y_P_isZero b_P_isZero 1 (some .boolean) :: lw_g) (rm_P_isZero) (va_Pc [.ref (a 10)] (pcW D [(k 11, .long)] (wP a k ro sp qr qs) sz)) (qc_P_isZero D (va_A (wP a k ro sp qr qs) sz) a k ro sp qr qs r) 0 0 (va_A (wP a k ro sp qr qs) sz) := by
  refine Met.ofW (cc := b_P_isZero) (maxL := 1) (ret := (some .boolean)) (by decide) rfl ?_
  intro p e s m args below meth c s₁ B hml hv
  obtain ⟨rfl, hsz, hP, hK, hD0⟩ := hv
  have hts := atoms_spec (ws := Cond.code y_P_isZero b_P_isZero 1 (some .boolean) :: lw_g) B.pre
  subst hsz
  have hD := hD0.self (sz := s.heap.size)
  have hl := lv_entry ([.ref (a 10)]) (n := 1) (Nat.le_of_ble_eq_true rfl)
  rw [lg_entry_eq]
  generalize (lg_sl ([.ref (a 10)]) ++ List.replicate (1 - (lg_sl ([.ref (a 10)])).length) Slot.unset).toArray = ls at hl ⊢
  exact k_P_isZero_0 ⟨B.exec, B.bytes, B.returns, hml, findClass_of_methodNamed B.named, fun w hw => hts w (List.mem_cons_of_mem _ hw), B.notSynchronized, fun q h => Or.inr h, hK⟩ _ _ h _ _ _ hP hD va_S.rf hl
