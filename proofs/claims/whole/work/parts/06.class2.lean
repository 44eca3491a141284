def rm_B_isCrossing : Room := { frames := 0, cells := 0, slots := 0, locals := 0 }
def qc_B_isCrossing (D : va_G) (A : Nat → Prop) (a : Nat → Nat) (k : Nat → ClassId) (lab : Nat → Int32) (sg : Nat → Int32) (cc : Int32) (ci : Int32) (od : Nat → Int32) (sd : Nat → Int32) (go : Nat → Int32) (ta : Nat → Int32) (we : Int32) (oe : Nat → Int32) (fp : Nat → Int32) (ro : Nat → Int64) (sp : Nat → Int64) (qr : Nat) (qs : Nat) (r : Int32) : Array Value → State → Outcome → State → Prop := va_Qi (fun (r1 : Int32) (_ : Unit) => r1 = r) (poW D [(k 1, .int), (k 2, .int), (k 3, .int), (k 4, .int), (k 5, .boolean), (k 6, .int), (k 8, .int), (k 9, .int), (k 11, .long)] (wB a k lab sg cc ci od sd go ta we oe fp ro sp qr qs) A) A
def J_B_isCrossing_0 (x1 : Int32) (cc : Int32) : Option (Int32) :=
  (if x1 < 0 then some ((0 : Int32)) else (if cc ≤ x1 then some ((0 : Int32)) else some ((1 : Int32))))
def F_B_isCrossing (x1 : Int32) (cc : Int32) : Option (Int32) := J_B_isCrossing_0 x1 cc
def H_B_isCrossing_0 (p : Program) (l : Launch) (e : Env) (s : State) (m : MethodId) (args : Array Value) (below : List Frame) (meth : Method) (c : Code) (D : va_G) (A : Nat → Prop) (a : Nat → Nat) (k : Nat → ClassId) (lab : Nat → Int32) (sg : Nat → Int32) (ci : Int32) (od : Nat → Int32) (sd : Nat → Int32) (go : Nat → Int32) (ta : Nat → Int32) (we : Int32) (oe : Nat → Int32) (fp : Nat → Int32) (ro : Nat → Int64) (sp : Nat → Int64) (qr : Nat) (qs : Nat) (f : Int32 → Int32 → Option (Int32)) : Prop := ∀ (x1 : Int32) (cc : Int32) (r : Int32), f x1 cc = some r → ∀ (H : Heap) (locs : List Loc) (ls : Array Slot), va_P D classes (wB a k lab sg cc ci od sd go ta we oe fp ro sp qr qs) H → va_D A (wB a k lab sg cc ci od sd go ta we oe fp ro sp qr qs) → va_S A s.heap H locs → lv_has ls 2 [(0, .ref (a 0)), (1, .int x1)] → W p l e (rm_B_isCrossing) s m args below meth c H locs 0 0 (MQ below (qc_B_isCrossing D A a k lab sg cc ci od sd go ta we oe fp ro sp qr qs r) args s 0 0 A) (F0 m 0 ls [])
set_option maxHeartbeats 4000000 in
set_option maxRecDepth 100000 in
theorem k_B_isCrossing_0 {p : Program} {l : Launch} {e : Env} {s : State} {m : MethodId} {args : Array Value} {below : List Frame} {meth : Method} {c : Code} {D : va_G} {A : Nat → Prop} {a : Nat → Nat} {k : Nat → ClassId} {lab : Nat → Int32} {sg : Nat → Int32} {ci : Int32} {od : Nat → Int32} {sd : Nat → Int32} {go : Nat → Int32} {ta : Nat → Int32} {we : Int32} {oe : Nat → Int32} {fp : Nat → Int32} {ro : Nat → Int64} {sp : Nat → Int64} {qr : Nat} {qs : Nat} (C : cx D [(k 1, .int), (k 2, .int), (k 3, .int), (k 4, .int), (k 5, .boolean), (k 6, .int), (k 8, .int), (k 9, .int), (k 11, .long)] R_B b_B_isCrossing 2 (some .boolean) A p s m args meth c) : H_B_isCrossing_0 p l e s m args below meth c D A a k lab sg ci od sd go ta we oe fp ro sp qr qs (J_B_isCrossing_0) := by
  obtain ⟨hx, hb, hr, hml, hown, ht, hlk, hA, hK⟩ := id C
  intro x1 cc r h H locs ls hP hD hS hl
  unfold J_B_isCrossing_0 at h
  refine lv_iload_n hx hb d_B_isCrossing_0 rfl (lv_at hl 1 rfl) ?_
  refine lv_if_lt (tgt := 16) hx hb d_B_isCrossing_1 (by decide) (fun c_1 => ?_) (fun c_1 => ?_)
  · have h := ite_T c_1 h
    refine lv_iconst (v := 0) hx hb d_B_isCrossing_16 (by decide) ?_
    cases h
    exact W.zret hx hb hr rfl (fun t ht hW => ⟨⟨_, (), rfl, rfl, by rw [ht]; exact hP, va_K.moved hW.alike hK, hD⟩, hS.F ht⟩) hS.2.2 d_B_isCrossing_17 hlk
  · have h := ite_F c_1 h
    refine lv_iload_n hx hb d_B_isCrossing_4 rfl (lv_at hl 1 rfl) ?_
    refine lv_aload_n hx hb d_B_isCrossing_5 rfl (lv_at hl 0 rfl) ?_
    refine va_get (D := D) (ci := 0) (v := .int cc) (C := R_B) (T := F_B) (N := 11) hx hb ht iC_B hown hK hP 0 rfl rfl 2 (by decide) (ht _ ix_38) (fun _ h9 => h9) rfl d_B_isCrossing_6 ?_
    refine lv_icmp_ge (tgt := 16) hx hb d_B_isCrossing_9 (by decide) (fun c_2 => ?_) (fun c_2 => ?_)
    · have h := ite_T c_2 h
      refine lv_iconst (v := 0) hx hb d_B_isCrossing_16 (by decide) ?_
      cases h
      exact W.zret hx hb hr rfl (fun t ht hW => ⟨⟨_, (), rfl, rfl, by rw [ht]; exact hP, va_K.moved hW.alike hK, hD⟩, hS.F ht⟩) hS.2.2 d_B_isCrossing_17 hlk
    · have h := ite_F c_2 h
      refine lv_iconst (v := 1) hx hb d_B_isCrossing_12 (by decide) ?_
      refine lv_goto (tgt := 17) hx hb d_B_isCrossing_13 (by decide) ?_
      cases h
      exact W.zret hx hb hr rfl (fun t ht hW => ⟨⟨_, (), rfl, rfl, by rw [ht]; exact hP, va_K.moved hW.alike hK, hD⟩, hS.F ht⟩) hS.2.2 d_B_isCrossing_17 hlk
set_option maxRecDepth 20000 in
theorem c_B_isCrossing (l : Launch) (D : va_G) (a : Nat → Nat) (k : Nat → ClassId) (sz : Nat) (x1 : Int32) (lab : Nat → Int32) (sg : Nat → Int32) (cc : Int32) (ci : Int32) (od : Nat → Int32) (sd : Nat → Int32) (go : Nat → Int32) (ta : Nat → Int32) (we : Int32) (oe : Nat → Int32) (fp : Nat → Int32) (ro : Nat → Int64) (sp : Nat → Int64) (qr : Nat) (qs : Nat) (r : Int32) (h : F_B_isCrossing x1 cc = some r) : Met l y_B_isCrossing (Cond.code y_B_isCrossing b_B_isCrossing 2 (some .boolean) :: lw_g) (rm_B_isCrossing) (va_Pc [.ref (a 0), .int x1] (pcW D [(k 1, .int), (k 2, .int), (k 3, .int), (k 4, .int), (k 5, .boolean), (k 6, .int), (k 8, .int), (k 9, .int), (k 11, .long)] (wB a k lab sg cc ci od sd go ta we oe fp ro sp qr qs) sz)) (qc_B_isCrossing D (va_A (wB a k lab sg cc ci od sd go ta we oe fp ro sp qr qs) sz) a k lab sg cc ci od sd go ta we oe fp ro sp qr qs r) 0 0 (va_A (wB a k lab sg cc ci od sd go ta we oe fp ro sp qr qs) sz) := by
  refine Met.ofW (cc := b_B_isCrossing) (maxL := 2) (ret := (some .boolean)) (by decide) rfl ?_
  intro p e s m args below meth c s₁ B hml hv
  obtain ⟨rfl, hsz, hP, hK, hD0⟩ := hv
  have hts := atoms_spec (ws := Cond.code y_B_isCrossing b_B_isCrossing 2 (some .boolean) :: lw_g) B.pre
  subst hsz
  have hD := hD0.self (sz := s.heap.size)
  have hl := lv_entry ([.ref (a 0), .int x1]) (n := 2) (Nat.le_of_ble_eq_true rfl)
  rw [lg_entry_eq]
  generalize (lg_sl ([.ref (a 0), .int x1]) ++ List.replicate (2 - (lg_sl ([.ref (a 0), .int x1])).length) Slot.unset).toArray = ls at hl ⊢
  exact k_B_isCrossing_0 ⟨B.exec, B.bytes, B.returns, hml, findClass_of_methodNamed B.named, fun w hw => hts w (List.mem_cons_of_mem _ hw), B.notSynchronized, fun q h => Or.inr h, hK⟩ _ _ _ h _ _ _ hP hD va_S.rf hl

def rm_B_orderAsGiven : Room := { frames := 0, cells := 0, slots := 0, locals := 0 }
def qc_B_orderAsGiven (D : va_G) (A : Nat → Prop) (a : Nat → Nat) (k : Nat → ClassId) (lab : Nat → Int32) (sg : Nat → Int32) (cc : Int32) (ci : Int32) (sd : Nat → Int32) (go : Nat → Int32) (ta : Nat → Int32) (oe : Nat → Int32) (fp : Nat → Int32) (ro : Nat → Int64) (sp : Nat → Int64) (qr : Nat) (qs : Nat) (r : (Nat → Int32) × Int32) : Array Value → State → Outcome → State → Prop := va_Qv (fun (_ : Unit) => True) (poW D [(k 1, .int), (k 2, .int), (k 3, .int), (k 4, .int), (k 5, .boolean), (k 6, .int), (k 8, .int), (k 9, .int), (k 11, .long)] (wB a k lab sg cc ci r.1 sd go ta r.2 oe fp ro sp qr qs) A) A
def J_B_orderAsGiven_2 (rec2 : Int32 → (Nat → Int32) → Int32 → Option ((Nat → Int32) × Int32)) (x1 : Int32) (od : Nat → Int32) (we : Int32) : Option ((Nat → Int32) × Int32) :=
  (if (10 : Int32) ≤ x1 then some (od, (0 : Int32)) else (if inb x1 10 then rec2 (x1 + 1) (upd od x1.toNatClampNeg x1) we else none))
def L_B_orderAsGiven_2 : Nat → Int32 → (Nat → Int32) → Int32 → Option ((Nat → Int32) × Int32)
  | 0 => fun _ _ _ => none
  | n + 1 => J_B_orderAsGiven_2 (L_B_orderAsGiven_2 n)
def J_B_orderAsGiven_0 (od : Nat → Int32) (we : Int32) : Option ((Nat → Int32) × Int32) :=
  L_B_orderAsGiven_2 fu (0 : Int32) od we
def F_B_orderAsGiven (od : Nat → Int32) (we : Int32) : Option ((Nat → Int32) × Int32) := J_B_orderAsGiven_0 od we
def H_B_orderAsGiven_2 (p : Program) (l : Launch) (e : Env) (s : State) (m : MethodId) (args : Array Value) (below : List Frame) (meth : Method) (c : Code) (D : va_G) (A : Nat → Prop) (a : Nat → Nat) (k : Nat → ClassId) (lab : Nat → Int32) (sg : Nat → Int32) (cc : Int32) (ci : Int32) (sd : Nat → Int32) (go : Nat → Int32) (ta : Nat → Int32) (oe : Nat → Int32) (fp : Nat → Int32) (ro : Nat → Int64) (sp : Nat → Int64) (qr : Nat) (qs : Nat) (f : Int32 → (Nat → Int32) → Int32 → Option ((Nat → Int32) × Int32)) : Prop := ∀ (x1 : Int32) (od : Nat → Int32) (we : Int32) (r : (Nat → Int32) × Int32), f x1 od we = some r → ∀ (H : Heap) (locs : List Loc) (ls : Array Slot), va_P D classes (wB a k lab sg cc ci od sd go ta we oe fp ro sp qr qs) H → va_D A (wB a k lab sg cc ci od sd go ta we oe fp ro sp qr qs) → va_S A s.heap H locs → lv_has ls 2 [(0, .ref (a 0)), (1, .int x1)] → W p l e (rm_B_orderAsGiven) s m args below meth c H locs 0 0 (MQ below (qc_B_orderAsGiven D A a k lab sg cc ci sd go ta oe fp ro sp qr qs r) args s 0 0 A) (F0 m 2 ls [])
def H_B_orderAsGiven_0 (p : Program) (l : Launch) (e : Env) (s : State) (m : MethodId) (args : Array Value) (below : List Frame) (meth : Method) (c : Code) (D : va_G) (A : Nat → Prop) (a : Nat → Nat) (k : Nat → ClassId) (lab : Nat → Int32) (sg : Nat → Int32) (cc : Int32) (ci : Int32) (sd : Nat → Int32) (go : Nat → Int32) (ta : Nat → Int32) (oe : Nat → Int32) (fp : Nat → Int32) (ro : Nat → Int64) (sp : Nat → Int64) (qr : Nat) (qs : Nat) (f : (Nat → Int32) → Int32 → Option ((Nat → Int32) × Int32)) : Prop := ∀ (od : Nat → Int32) (we : Int32) (r : (Nat → Int32) × Int32), f od we = some r → ∀ (H : Heap) (locs : List Loc) (ls : Array Slot), va_P D classes (wB a k lab sg cc ci od sd go ta we oe fp ro sp qr qs) H → va_D A (wB a k lab sg cc ci od sd go ta we oe fp ro sp qr qs) → va_S A s.heap H locs → lv_has ls 2 [(0, .ref (a 0))] → W p l e (rm_B_orderAsGiven) s m args below meth c H locs 0 0 (MQ below (qc_B_orderAsGiven D A a k lab sg cc ci sd go ta oe fp ro sp qr qs r) args s 0 0 A) (F0 m 0 ls [])
set_option maxHeartbeats 4000000 in
set_option maxRecDepth 100000 in
theorem k_B_orderAsGiven_2 {p : Program} {l : Launch} {e : Env} {s : State} {m : MethodId} {args : Array Value} {below : List Frame} {meth : Method} {c : Code} {D : va_G} {A : Nat → Prop} {a : Nat → Nat} {k : Nat → ClassId} {lab : Nat → Int32} {sg : Nat → Int32} {cc : Int32} {ci : Int32} {sd : Nat → Int32} {go : Nat → Int32} {ta : Nat → Int32} {oe : Nat → Int32} {fp : Nat → Int32} {ro : Nat → Int64} {sp : Nat → Int64} {qr : Nat} {qs : Nat} {rec2 : Int32 → (Nat → Int32) → Int32 → Option ((Nat → Int32) × Int32)} (C : cx D [(k 1, .int), (k 2, .int), (k 3, .int), (k 4, .int), (k 5, .boolean), (k 6, .int), (k 8, .int), (k 9, .int), (k 11, .long)] R_B b_B_orderAsGiven 2 none A p s m args meth c) (hrec2 : H_B_orderAsGiven_2 p l e s m args below meth c D A a k lab sg cc ci sd go ta oe fp ro sp qr qs rec2) : H_B_orderAsGiven_2 p l e s m args below meth c D A a k lab sg cc ci sd go ta oe fp ro sp qr qs (J_B_orderAsGiven_2 rec2) := by
  obtain ⟨hx, hb, hr, hml, hown, ht, hlk, hA, hK⟩ := id C
  intro x1 od we r h H locs ls hP hD hS hl
  unfold J_B_orderAsGiven_2 at h
  refine lv_iload_n hx hb d_B_orderAsGiven_2 rfl (lv_at hl 1 rfl) ?_
  refine lv_bipush (v := 10) hx hb d_B_orderAsGiven_3 (by decide) ?_
  refine lv_icmp_ge (tgt := 21) hx hb d_B_orderAsGiven_5 (by decide) (fun c_1 => ?_) (fun c_1 => ?_)
  · have h := ite_T c_1 h
    refine lv_aload_n hx hb d_B_orderAsGiven_21 rfl (lv_at hl 0 rfl) ?_
    refine lv_iconst (v := 0) hx hb d_B_orderAsGiven_22 (by decide) ?_
    refine va_put (D := D) (ci := 0) (v := .int (0 : Int32)) (ty := .boolean) (C := R_B) (T := F_B) (N := 11) hx hb ht iC_B t_B t_B_ok n_B hown hK hP hD hS 0 rfl rfl 10 (by decide) (ht _ ix_39) (fun _ h9 => h9) rfl (by decide +kernel) rfl rfl (Nat.le_of_ble_eq_true rfl) d_B_orderAsGiven_23 (fun H locs hP hD hS => ?_)
    have hP : va_P D classes (wB a k lab sg cc ci od sd go ta (0 : Int32) oe fp ro sp qr qs) H := hP
    have hD : va_D A (wB a k lab sg cc ci od sd go ta (0 : Int32) oe fp ro sp qr qs) := hD
    cases h
    exact W.vret hx hb hr (fun t ht hW => ⟨⟨(), rfl, trivial, by rw [ht]; exact hP, va_K.moved hW.alike hK, hD⟩, hS.F ht⟩) hS.2.2 d_B_orderAsGiven_26 hlk
  · have h := ite_F c_1 h
    refine lv_aload_n hx hb d_B_orderAsGiven_8 rfl (lv_at hl 0 rfl) ?_
    refine va_get (D := D) (ci := 0) (v := .ref (a 3)) (C := R_B) (T := F_B) (N := 11) hx hb ht iC_B hown hK hP 0 rfl rfl 4 (by decide) (ht _ ix_40) (fun _ h9 => h9) rfl d_B_orderAsGiven_9 ?_
    refine lv_iload_n hx hb d_B_orderAsGiven_12 rfl (lv_at hl 1 rfl) ?_
    refine lv_iload_n hx hb d_B_orderAsGiven_13 rfl (lv_at hl 1 rfl) ?_
    obtain ⟨g_2, h⟩ := gd_some h
    refine va_iast hx hb hK hP hD hS 3 2 rfl rfl (inb_in g_2) d_B_orderAsGiven_14 (fun H locs hP hD hS => ?_)
    have hP : va_P D classes (wB a k lab sg cc ci (upd od x1.toNatClampNeg x1) sd go ta we oe fp ro sp qr qs) H := hP
    have hD : va_D A (wB a k lab sg cc ci (upd od x1.toNatClampNeg x1) sd go ta we oe fp ro sp qr qs) := hD
    refine lv_iinc (v := x1 + 1) (lv' := [(1, .int (x1 + 1)), (0, .ref (a 0))]) hx hb d_B_orderAsGiven_15 hl (k := 1) rfl rfl (by decide) rfl (fun ls hl => ?_)
    refine lv_goto (tgt := 2) hx hb d_B_orderAsGiven_18 (by decide) ?_
    exact hrec2 _ _ _ _ h _ _ _ hP hD hS (lv_sub hl [1, 0] rfl)
theorem k_B_orderAsGiven_2_L {p : Program} {l : Launch} {e : Env} {s : State} {m : MethodId} {args : Array Value} {below : List Frame} {meth : Method} {c : Code} {D : va_G} {A : Nat → Prop} {a : Nat → Nat} {k : Nat → ClassId} {lab : Nat → Int32} {sg : Nat → Int32} {cc : Int32} {ci : Int32} {sd : Nat → Int32} {go : Nat → Int32} {ta : Nat → Int32} {oe : Nat → Int32} {fp : Nat → Int32} {ro : Nat → Int64} {sp : Nat → Int64} {qr : Nat} {qs : Nat} (C : cx D [(k 1, .int), (k 2, .int), (k 3, .int), (k 4, .int), (k 5, .boolean), (k 6, .int), (k 8, .int), (k 9, .int), (k 11, .long)] R_B b_B_orderAsGiven 2 none A p s m args meth c) : ∀ n : Nat, H_B_orderAsGiven_2 p l e s m args below meth c D A a k lab sg cc ci sd go ta oe fp ro sp qr qs (L_B_orderAsGiven_2 n)
  | 0 => fun _ _ _ _ h => nomatch h
  | n + 1 => k_B_orderAsGiven_2 C (k_B_orderAsGiven_2_L C n)
set_option maxHeartbeats 4000000 in
set_option maxRecDepth 100000 in
theorem k_B_orderAsGiven_0 {p : Program} {l : Launch} {e : Env} {s : State} {m : MethodId} {args : Array Value} {below : List Frame} {meth : Method} {c : Code} {D : va_G} {A : Nat → Prop} {a : Nat → Nat} {k : Nat → ClassId} {lab : Nat → Int32} {sg : Nat → Int32} {cc : Int32} {ci : Int32} {sd : Nat → Int32} {go : Nat → Int32} {ta : Nat → Int32} {oe : Nat → Int32} {fp : Nat → Int32} {ro : Nat → Int64} {sp : Nat → Int64} {qr : Nat} {qs : Nat} (C : cx D [(k 1, .int), (k 2, .int), (k 3, .int), (k 4, .int), (k 5, .boolean), (k 6, .int), (k 8, .int), (k 9, .int), (k 11, .long)] R_B b_B_orderAsGiven 2 none A p s m args meth c) : H_B_orderAsGiven_0 p l e s m args below meth c D A a k lab sg cc ci sd go ta oe fp ro sp qr qs (J_B_orderAsGiven_0) := by
  obtain ⟨hx, hb, hr, hml, hown, ht, hlk, hA, hK⟩ := id C
  intro od we r h H locs ls hP hD hS hl
  unfold J_B_orderAsGiven_0 at h
  refine lv_iconst (v := 0) hx hb d_B_orderAsGiven_0 (by decide) ?_
  refine lv_istore_n (lv' := [(1, .int (0 : Int32)), (0, .ref (a 0))]) hx hb d_B_orderAsGiven_1 rfl hl (by decide) rfl (fun ls hl => ?_)
  exact (k_B_orderAsGiven_2_L C fu) _ _ _ _ h _ _ _ hP hD hS (lv_sub hl [1, 0] rfl)
set_option maxRecDepth 20000 in
theorem c_B_orderAsGiven (l : Launch) (D : va_G) (a : Nat → Nat) (k : Nat → ClassId) (sz : Nat) (lab : Nat → Int32) (sg : Nat → Int32) (cc : Int32) (ci : Int32) (od : Nat → Int32) (sd : Nat → Int32) (go : Nat → Int32) (ta : Nat → Int32) (we : Int32) (oe : Nat → Int32) (fp : Nat → Int32) (ro : Nat → Int64) (sp : Nat → Int64) (qr : Nat) (qs : Nat) (r : (Nat → Int32) × Int32) (h : F_B_orderAsGiven od we = some r) : Met l y_B_orderAsGiven (Cond.code y_B_orderAsGiven b_B_orderAsGiven 2 none :: lw_g) (rm_B_orderAsGiven) (va_Pc [.ref (a 0)] (pcW D [(k 1, .int), (k 2, .int), (k 3, .int), (k 4, .int), (k 5, .boolean), (k 6, .int), (k 8, .int), (k 9, .int), (k 11, .long)] (wB a k lab sg cc ci od sd go ta we oe fp ro sp qr qs) sz)) (qc_B_orderAsGiven D (va_A (wB a k lab sg cc ci od sd go ta we oe fp ro sp qr qs) sz) a k lab sg cc ci sd go ta oe fp ro sp qr qs r) 0 0 (va_A (wB a k lab sg cc ci od sd go ta we oe fp ro sp qr qs) sz) := by
  refine Met.ofW (cc := b_B_orderAsGiven) (maxL := 2) (ret := none) (by decide) rfl ?_
  intro p e s m args below meth c s₁ B hml hv
  obtain ⟨rfl, hsz, hP, hK, hD0⟩ := hv
  have hts := atoms_spec (ws := Cond.code y_B_orderAsGiven b_B_orderAsGiven 2 none :: lw_g) B.pre
  subst hsz
  have hD := hD0.self (sz := s.heap.size)
  have hl := lv_entry ([.ref (a 0)]) (n := 2) (Nat.le_of_ble_eq_true rfl)
  rw [lg_entry_eq]
  generalize (lg_sl ([.ref (a 0)]) ++ List.replicate (2 - (lg_sl ([.ref (a 0)])).length) Slot.unset).toArray = ls at hl ⊢
  exact k_B_orderAsGiven_0 ⟨B.exec, B.bytes, B.returns, hml, findClass_of_methodNamed B.named, fun w hw => hts w (List.mem_cons_of_mem _ hw), B.notSynchronized, fun q h => Or.inr h, hK⟩ _ _ _ h _ _ _ hP hD va_S.rf hl

def rm_B_countStanding : Room := { frames := 1, cells := 0, slots := 0, locals := 23 }
def qc_B_countStanding (D : va_G) (A : Nat → Prop) (a : Nat → Nat) (k : Nat → ClassId) (lab : Nat → Int32) (sg : Nat → Int32) (cc : Int32) (ci : Int32) (od : Nat → Int32) (go : Nat → Int32) (ta : Nat → Int32) (we : Int32) (oe : Nat → Int32) (fp : Nat → Int32) (ro : Nat → Int64) (sp : Nat → Int64) (qr : Nat) (qs : Nat) (r : (Nat → Int32)) : Array Value → State → Outcome → State → Prop := va_Qv (fun (_ : Unit) => True) (poW D [(k 1, .int), (k 2, .int), (k 3, .int), (k 4, .int), (k 5, .boolean), (k 6, .int), (k 8, .int), (k 9, .int), (k 11, .long)] (wB a k lab sg cc ci od r go ta we oe fp ro sp qr qs) A) A
def J_B_countStanding_10 (rec10 : Int32 → (Nat → Int32) → Int32 → (Nat → Int32) → Option ((Nat → Int32))) (x1 : Int32) (lab : Nat → Int32) (cc : Int32) (sd : Nat → Int32) : Option ((Nat → Int32)) :=
  (if ((4 : Int32) * cc) ≤ x1 then some (sd) else (if inb x1 40 then (if inb (lab x1.toNatClampNeg) 100 then (if inb (lab x1.toNatClampNeg) 100 then rec10 (x1 + 1) lab cc (upd sd (lab x1.toNatClampNeg).toNatClampNeg ((sd (lab x1.toNatClampNeg).toNatClampNeg) + (1 : Int32))) else none) else none) else none))
def L_B_countStanding_10 : Nat → Int32 → (Nat → Int32) → Int32 → (Nat → Int32) → Option ((Nat → Int32))
  | 0 => fun _ _ _ _ => none
  | n + 1 => J_B_countStanding_10 (L_B_countStanding_10 n)
def J_B_countStanding_0 (lab : Nat → Int32) (cc : Int32) (sd : Nat → Int32) : Option ((Nat → Int32)) :=
  L_B_countStanding_10 fu (0 : Int32) lab cc (fun _ => (0 : Int32))
def F_B_countStanding (lab : Nat → Int32) (cc : Int32) (sd : Nat → Int32) : Option ((Nat → Int32)) := J_B_countStanding_0 lab cc sd
def H_B_countStanding_10 (p : Program) (l : Launch) (e : Env) (s : State) (m : MethodId) (args : Array Value) (below : List Frame) (meth : Method) (c : Code) (D : va_G) (A : Nat → Prop) (a : Nat → Nat) (k : Nat → ClassId) (sg : Nat → Int32) (ci : Int32) (od : Nat → Int32) (go : Nat → Int32) (ta : Nat → Int32) (we : Int32) (oe : Nat → Int32) (fp : Nat → Int32) (ro : Nat → Int64) (sp : Nat → Int64) (qr : Nat) (qs : Nat) (f : Int32 → (Nat → Int32) → Int32 → (Nat → Int32) → Option ((Nat → Int32))) : Prop := ∀ (x1 : Int32) (lab : Nat → Int32) (cc : Int32) (sd : Nat → Int32) (r : (Nat → Int32)), f x1 lab cc sd = some r → ∀ (H : Heap) (locs : List Loc) (ls : Array Slot), va_P D classes (wB a k lab sg cc ci od sd go ta we oe fp ro sp qr qs) H → va_D A (wB a k lab sg cc ci od sd go ta we oe fp ro sp qr qs) → va_S A s.heap H locs → lv_has ls 2 [(0, .ref (a 0)), (1, .int x1)] → W p l e (rm_B_countStanding) s m args below meth c H locs 0 0 (MQ below (qc_B_countStanding D A a k lab sg cc ci od go ta we oe fp ro sp qr qs r) args s 0 0 A) (F0 m 10 ls [])
def H_B_countStanding_0 (p : Program) (l : Launch) (e : Env) (s : State) (m : MethodId) (args : Array Value) (below : List Frame) (meth : Method) (c : Code) (D : va_G) (A : Nat → Prop) (a : Nat → Nat) (k : Nat → ClassId) (sg : Nat → Int32) (ci : Int32) (od : Nat → Int32) (go : Nat → Int32) (ta : Nat → Int32) (we : Int32) (oe : Nat → Int32) (fp : Nat → Int32) (ro : Nat → Int64) (sp : Nat → Int64) (qr : Nat) (qs : Nat) (f : (Nat → Int32) → Int32 → (Nat → Int32) → Option ((Nat → Int32))) : Prop := ∀ (lab : Nat → Int32) (cc : Int32) (sd : Nat → Int32) (r : (Nat → Int32)), f lab cc sd = some r → ∀ (H : Heap) (locs : List Loc) (ls : Array Slot), va_P D classes (wB a k lab sg cc ci od sd go ta we oe fp ro sp qr qs) H → va_D A (wB a k lab sg cc ci od sd go ta we oe fp ro sp qr qs) → va_S A s.heap H locs → lv_has ls 2 [(0, .ref (a 0))] → W p l e (rm_B_countStanding) s m args below meth c H locs 0 0 (MQ below (qc_B_countStanding D A a k lab sg cc ci od go ta we oe fp ro sp qr qs r) args s 0 0 A) (F0 m 0 ls [])
set_option maxHeartbeats 4000000 in
set_option maxRecDepth 100000 in
theorem k_B_countStanding_10 {p : Program} {l : Launch} {e : Env} {s : State} {m : MethodId} {args : Array Value} {below : List Frame} {meth : Method} {c : Code} {D : va_G} {A : Nat → Prop} {a : Nat → Nat} {k : Nat → ClassId} {sg : Nat → Int32} {ci : Int32} {od : Nat → Int32} {go : Nat → Int32} {ta : Nat → Int32} {we : Int32} {oe : Nat → Int32} {fp : Nat → Int32} {ro : Nat → Int64} {sp : Nat → Int64} {qr : Nat} {qs : Nat} {rec10 : Int32 → (Nat → Int32) → Int32 → (Nat → Int32) → Option ((Nat → Int32))} (C : cx D [(k 1, .int), (k 2, .int), (k 3, .int), (k 4, .int), (k 5, .boolean), (k 6, .int), (k 8, .int), (k 9, .int), (k 11, .long)] R_B b_B_countStanding 2 none A p s m args meth c) (hrec10 : H_B_countStanding_10 p l e s m args below meth c D A a k sg ci od go ta we oe fp ro sp qr qs rec10) : H_B_countStanding_10 p l e s m args below meth c D A a k sg ci od go ta we oe fp ro sp qr qs (J_B_countStanding_10 rec10) := by
  obtain ⟨hx, hb, hr, hml, hown, ht, hlk, hA, hK⟩ := id C
  intro x1 lab cc sd r h H locs ls hP hD hS hl
  unfold J_B_countStanding_10 at h
  refine lv_iload_n hx hb d_B_countStanding_10 rfl (lv_at hl 1 rfl) ?_
  refine lv_iconst (v := 4) hx hb d_B_countStanding_11 (by decide) ?_
  refine lv_aload_n hx hb d_B_countStanding_12 rfl (lv_at hl 0 rfl) ?_
  refine va_get (D := D) (ci := 0) (v := .int cc) (C := R_B) (T := F_B) (N := 11) hx hb ht iC_B hown hK hP 0 rfl rfl 2 (by decide) (ht _ ix_38) (fun _ h9 => h9) rfl d_B_countStanding_13 ?_
  refine lv_imul hx hb d_B_countStanding_16 ?_
  refine lv_icmp_ge (tgt := 41) hx hb d_B_countStanding_17 (by decide) (fun c_1 => ?_) (fun c_1 => ?_)
  · have h := ite_T c_1 h
    cases h
    exact W.vret hx hb hr (fun t ht hW => ⟨⟨(), rfl, trivial, by rw [ht]; exact hP, va_K.moved hW.alike hK, hD⟩, hS.F ht⟩) hS.2.2 d_B_countStanding_41 hlk
  · have h := ite_F c_1 h
    refine lv_aload_n hx hb d_B_countStanding_20 rfl (lv_at hl 0 rfl) ?_
    refine va_get (D := D) (ci := 0) (v := .ref (a 4)) (C := R_B) (T := F_B) (N := 11) hx hb ht iC_B hown hK hP 0 rfl rfl 5 (by decide) (ht _ ix_41) (fun _ h9 => h9) rfl d_B_countStanding_21 ?_
    refine lv_aload_n hx hb d_B_countStanding_24 rfl (lv_at hl 0 rfl) ?_
    refine va_get (D := D) (ci := 0) (v := .ref (a 1)) (C := R_B) (T := F_B) (N := 11) hx hb ht iC_B hown hK hP 0 rfl rfl 0 (by decide) (ht _ ix_43) (fun _ h9 => h9) rfl d_B_countStanding_25 ?_
    refine lv_iload_n hx hb d_B_countStanding_28 rfl (lv_at hl 1 rfl) ?_
    obtain ⟨g_2, h⟩ := gd_some h
    refine va_iald hx hb hK hP 1 0 rfl rfl (inb_in g_2) d_B_countStanding_29 ?_
    refine lv_dup2_11 hx hb d_B_countStanding_30 rfl rfl ?_
    obtain ⟨g_3, h⟩ := gd_some h
    refine va_iald hx hb hK hP 4 3 rfl rfl (inb_in g_3) d_B_countStanding_31 ?_
    refine lv_iconst (v := 1) hx hb d_B_countStanding_32 (by decide) ?_
    refine lv_iadd hx hb d_B_countStanding_33 ?_
    obtain ⟨g_4, h⟩ := gd_some h
    refine va_iast hx hb hK hP hD hS 4 3 rfl rfl (inb_in g_4) d_B_countStanding_34 (fun H locs hP hD hS => ?_)
    have hP : va_P D classes (wB a k lab sg cc ci od (upd sd (lab x1.toNatClampNeg).toNatClampNeg ((sd (lab x1.toNatClampNeg).toNatClampNeg) + (1 : Int32))) go ta we oe fp ro sp qr qs) H := hP
    have hD : va_D A (wB a k lab sg cc ci od (upd sd (lab x1.toNatClampNeg).toNatClampNeg ((sd (lab x1.toNatClampNeg).toNatClampNeg) + (1 : Int32))) go ta we oe fp ro sp qr qs) := hD
    refine lv_iinc (v := x1 + 1) (lv' := [(1, .int (x1 + 1)), (0, .ref (a 0))]) hx hb d_B_countStanding_35 hl (k := 1) rfl rfl (by decide) rfl (fun ls hl => ?_)
    refine lv_goto (tgt := 10) hx hb d_B_countStanding_38 (by decide) ?_
    exact hrec10 _ _ _ _ _ h _ _ _ hP hD hS (lv_sub hl [1, 0] rfl)
theorem k_B_countStanding_10_L {p : Program} {l : Launch} {e : Env} {s : State} {m : MethodId} {args : Array Value} {below : List Frame} {meth : Method} {c : Code} {D : va_G} {A : Nat → Prop} {a : Nat → Nat} {k : Nat → ClassId} {sg : Nat → Int32} {ci : Int32} {od : Nat → Int32} {go : Nat → Int32} {ta : Nat → Int32} {we : Int32} {oe : Nat → Int32} {fp : Nat → Int32} {ro : Nat → Int64} {sp : Nat → Int64} {qr : Nat} {qs : Nat} (C : cx D [(k 1, .int), (k 2, .int), (k 3, .int), (k 4, .int), (k 5, .boolean), (k 6, .int), (k 8, .int), (k 9, .int), (k 11, .long)] R_B b_B_countStanding 2 none A p s m args meth c) : ∀ n : Nat, H_B_countStanding_10 p l e s m args below meth c D A a k sg ci od go ta we oe fp ro sp qr qs (L_B_countStanding_10 n)
  | 0 => fun _ _ _ _ _ h => nomatch h
  | n + 1 => k_B_countStanding_10 C (k_B_countStanding_10_L C n)
set_option maxHeartbeats 4000000 in
set_option maxRecDepth 100000 in
theorem k_B_countStanding_0 {p : Program} {l : Launch} {e : Env} {s : State} {m : MethodId} {args : Array Value} {below : List Frame} {meth : Method} {c : Code} {D : va_G} {A : Nat → Prop} {a : Nat → Nat} {k : Nat → ClassId} {sg : Nat → Int32} {ci : Int32} {od : Nat → Int32} {go : Nat → Int32} {ta : Nat → Int32} {we : Int32} {oe : Nat → Int32} {fp : Nat → Int32} {ro : Nat → Int64} {sp : Nat → Int64} {qr : Nat} {qs : Nat} (C : cx D [(k 1, .int), (k 2, .int), (k 3, .int), (k 4, .int), (k 5, .boolean), (k 6, .int), (k 8, .int), (k 9, .int), (k 11, .long)] R_B b_B_countStanding 2 none A p s m args meth c) : H_B_countStanding_0 p l e s m args below meth c D A a k sg ci od go ta we oe fp ro sp qr qs (J_B_countStanding_0) := by
  obtain ⟨hx, hb, hr, hml, hown, ht, hlk, hA, hK⟩ := id C
  intro lab cc sd r h H locs ls hP hD hS hl
  unfold J_B_countStanding_0 at h
  refine lv_aload_n hx hb d_B_countStanding_0 rfl (lv_at hl 0 rfl) ?_
  refine va_get (D := D) (ci := 0) (v := .ref (a 4)) (C := R_B) (T := F_B) (N := 11) hx hb ht iC_B hown hK hP 0 rfl rfl 5 (by decide) (ht _ ix_41) (fun _ h9 => h9) rfl d_B_countStanding_1 ?_
  refine lv_iconst (v := 0) hx hb d_B_countStanding_4 (by decide) ?_
  refine go_Sv (As := [.ref (a 4), .int (0 : Int32)]) (rest := []) (wc := [((a 4), .inl (k 4, 100, .inl sd))]) (wr := [((a 0), .inr (0, [.ref (a 1), .ref (a 2), .int cc, .int ci, .ref (a 3), .ref (a 4), .ref (a 5), .ref (a 6), .ref (a 7), .ref (a 10), .int we])), ((a 1), .inl (k 1, 40, .inl lab)), ((a 2), .inl (k 2, 10, .inl sg)), ((a 3), .inl (k 3, 10, .inl od)), ((a 5), .inl (k 5, 10, .inl go)), ((a 6), .inl (k 6, 330, .inl ta)), ((a 7), .inr (1, [.ref (a 8), .ref (a 9)])), ((a 8), .inl (k 8, 40, .inl oe)), ((a 9), .inl (k 9, 100, .inl fp)), ((a 10), .inr (2, [.ref qr, .ref qs])), (qr, .inl (k 11, 133, .inr (.inl ro))), (qs, .inl (k 11, 133, .inr (.inl sp)))]) (w1 := [((a 4), .inl (k 4, 100, .inl (fun _ => (0 : Int32))))]) (w2 := (wB a k lab sg cc ci od (fun _ => (0 : Int32)) go ta we oe fp ro sp qr qs)) (tc := [(k 4, .int)]) hx hb hml hown ht (c_fillI l D (a 4) (k 4) 100 H.size sd (0 : Int32) (by decide)) g_B_134 ⟨rfl, rfl⟩ (n := 2) (by decide +kernel) ⟨(Nat.le_of_ble_eq_true rfl), (Nat.le_of_ble_eq_true rfl)⟩ hP hD hK hS hA ⟨Nat.zero_le _, Nat.zero_le _⟩ [4] [0, 1, 2, 3, 5, 6, 7, 8, 9, 10, 11, 12] [3] [0, 1, 2, 3, 12, 4, 5, 6, 7, 8, 9, 10, 11] rfl rfl rfl rfl (by decide) (by decide) (by decide) rfl (by decide) rfl rfl hl.1 (Nat.le_of_ble_eq_true rfl) d_B_countStanding_5 (fun H locs hP hD hS => ?_)
  refine lv_iconst (v := 0) hx hb d_B_countStanding_8 (by decide) ?_
  refine lv_istore_n (lv' := [(1, .int (0 : Int32)), (0, .ref (a 0))]) hx hb d_B_countStanding_9 rfl hl (by decide) rfl (fun ls hl => ?_)
  exact (k_B_countStanding_10_L C fu) _ _ _ _ _ h _ _ _ hP hD hS (lv_sub hl [1, 0] rfl)
set_option maxRecDepth 20000 in
theorem c_B_countStanding (l : Launch) (D : va_G) (a : Nat → Nat) (k : Nat → ClassId) (sz : Nat) (lab : Nat → Int32) (sg : Nat → Int32) (cc : Int32) (ci : Int32) (od : Nat → Int32) (sd : Nat → Int32) (go : Nat → Int32) (ta : Nat → Int32) (we : Int32) (oe : Nat → Int32) (fp : Nat → Int32) (ro : Nat → Int64) (sp : Nat → Int64) (qr : Nat) (qs : Nat) (r : (Nat → Int32)) (h : F_B_countStanding lab cc sd = some r) : Met l y_B_countStanding (Cond.code y_B_countStanding b_B_countStanding 2 none :: lw_g) (rm_B_countStanding) (va_Pc [.ref (a 0)] (pcW D [(k 1, .int), (k 2, .int), (k 3, .int), (k 4, .int), (k 5, .boolean), (k 6, .int), (k 8, .int), (k 9, .int), (k 11, .long)] (wB a k lab sg cc ci od sd go ta we oe fp ro sp qr qs) sz)) (qc_B_countStanding D (va_A (wB a k lab sg cc ci od sd go ta we oe fp ro sp qr qs) sz) a k lab sg cc ci od go ta we oe fp ro sp qr qs r) 0 0 (va_A (wB a k lab sg cc ci od sd go ta we oe fp ro sp qr qs) sz) := by
  refine Met.ofW (cc := b_B_countStanding) (maxL := 2) (ret := none) (by decide) rfl ?_
  intro p e s m args below meth c s₁ B hml hv
  obtain ⟨rfl, hsz, hP, hK, hD0⟩ := hv
  have hts := atoms_spec (ws := Cond.code y_B_countStanding b_B_countStanding 2 none :: lw_g) B.pre
  subst hsz
  have hD := hD0.self (sz := s.heap.size)
  have hl := lv_entry ([.ref (a 0)]) (n := 2) (Nat.le_of_ble_eq_true rfl)
  rw [lg_entry_eq]
  generalize (lg_sl ([.ref (a 0)]) ++ List.replicate (2 - (lg_sl ([.ref (a 0)])).length) Slot.unset).toArray = ls at hl ⊢
  exact k_B_countStanding_0 ⟨B.exec, B.bytes, B.returns, hml, findClass_of_methodNamed B.named, fun w hw => hts w (List.mem_cons_of_mem _ hw), B.notSynchronized, fun q h => Or.inr h, hK⟩ _ _ _ _ h _ _ _ hP hD va_S.rf hl

def rm_B_fault : Room := { frames := 2, cells := 0, slots := 0, locals := 44 }
def qc_B_fault (D : va_G) (A : Nat → Prop) (a : Nat → Nat) (k : Nat → ClassId) (lab : Nat → Int32) (sg : Nat → Int32) (cc : Int32) (ci : Int32) (od : Nat → Int32) (go : Nat → Int32) (ta : Nat → Int32) (we : Int32) (oe : Nat → Int32) (fp : Nat → Int32) (ro : Nat → Int64) (sp : Nat → Int64) (qr : Nat) (qs : Nat) (r : Int32 × (Nat → Int32)) : Array Value → State → Outcome → State → Prop := va_Qi (fun (r1 : Int32) (_ : Unit) => r1 = r.1) (poW D [(k 1, .int), (k 2, .int), (k 3, .int), (k 4, .int), (k 5, .boolean), (k 6, .int), (k 8, .int), (k 9, .int), (k 11, .long)] (wB a k lab sg cc ci od r.2 go ta we oe fp ro sp qr qs) A) A
def J_B_fault_6 (rec6 : Int32 → (Nat → Int32) → Int32 → (Nat → Int32) → Option (Int32 × (Nat → Int32))) (x1 : Int32) (lab : Nat → Int32) (cc : Int32) (sd : Nat → Int32) : Option (Int32 × (Nat → Int32)) :=
  (if (99 : Int32) < x1 then some ((0 : Int32), sd) else (if inb x1 100 then (if (sd x1.toNatClampNeg) = 0 then rec6 (x1 + 1) lab cc sd else (if inb x1 100 then (if (sd x1.toNatClampNeg) = (2 : Int32) then rec6 (x1 + 1) lab cc sd else some (x1, sd)) else none)) else none))
def L_B_fault_6 : Nat → Int32 → (Nat → Int32) → Int32 → (Nat → Int32) → Option (Int32 × (Nat → Int32))
  | 0 => fun _ _ _ _ => none
  | n + 1 => J_B_fault_6 (L_B_fault_6 n)
def J_B_fault_0 (lab : Nat → Int32) (cc : Int32) (sd : Nat → Int32) : Option (Int32 × (Nat → Int32)) :=
  (Option.bind (F_B_countStanding lab cc sd) (fun v_1 => L_B_fault_6 fu (1 : Int32) lab cc v_1))
def F_B_fault (lab : Nat → Int32) (cc : Int32) (sd : Nat → Int32) : Option (Int32 × (Nat → Int32)) := J_B_fault_0 lab cc sd
def H_B_fault_6 (p : Program) (l : Launch) (e : Env) (s : State) (m : MethodId) (args : Array Value) (below : List Frame) (meth : Method) (c : Code) (D : va_G) (A : Nat → Prop) (a : Nat → Nat) (k : Nat → ClassId) (sg : Nat → Int32) (ci : Int32) (od : Nat → Int32) (go : Nat → Int32) (ta : Nat → Int32) (we : Int32) (oe : Nat → Int32) (fp : Nat → Int32) (ro : Nat → Int64) (sp : Nat → Int64) (qr : Nat) (qs : Nat) (f : Int32 → (Nat → Int32) → Int32 → (Nat → Int32) → Option (Int32 × (Nat → Int32))) : Prop := ∀ (x1 : Int32) (lab : Nat → Int32) (cc : Int32) (sd : Nat → Int32) (r : Int32 × (Nat → Int32)), f x1 lab cc sd = some r → ∀ (H : Heap) (locs : List Loc) (ls : Array Slot), va_P D classes (wB a k lab sg cc ci od sd go ta we oe fp ro sp qr qs) H → va_D A (wB a k lab sg cc ci od sd go ta we oe fp ro sp qr qs) → va_S A s.heap H locs → lv_has ls 2 [(0, .ref (a 0)), (1, .int x1)] → W p l e (rm_B_fault) s m args below meth c H locs 0 0 (MQ below (qc_B_fault D A a k lab sg cc ci od go ta we oe fp ro sp qr qs r) args s 0 0 A) (F0 m 6 ls [])
def H_B_fault_0 (p : Program) (l : Launch) (e : Env) (s : State) (m : MethodId) (args : Array Value) (below : List Frame) (meth : Method) (c : Code) (D : va_G) (A : Nat → Prop) (a : Nat → Nat) (k : Nat → ClassId) (sg : Nat → Int32) (ci : Int32) (od : Nat → Int32) (go : Nat → Int32) (ta : Nat → Int32) (we : Int32) (oe : Nat → Int32) (fp : Nat → Int32) (ro : Nat → Int64) (sp : Nat → Int64) (qr : Nat) (qs : Nat) (f : (Nat → Int32) → Int32 → (Nat → Int32) → Option (Int32 × (Nat → Int32))) : Prop := ∀ (lab : Nat → Int32) (cc : Int32) (sd : Nat → Int32) (r : Int32 × (Nat → Int32)), f lab cc sd = some r → ∀ (H : Heap) (locs : List Loc) (ls : Array Slot), va_P D classes (wB a k lab sg cc ci od sd go ta we oe fp ro sp qr qs) H → va_D A (wB a k lab sg cc ci od sd go ta we oe fp ro sp qr qs) → va_S A s.heap H locs → lv_has ls 2 [(0, .ref (a 0))] → W p l e (rm_B_fault) s m args below meth c H locs 0 0 (MQ below (qc_B_fault D A a k lab sg cc ci od go ta we oe fp ro sp qr qs r) args s 0 0 A) (F0 m 0 ls [])
set_option maxHeartbeats 4000000 in
set_option maxRecDepth 100000 in
theorem k_B_fault_6 {p : Program} {l : Launch} {e : Env} {s : State} {m : MethodId} {args : Array Value} {below : List Frame} {meth : Method} {c : Code} {D : va_G} {A : Nat → Prop} {a : Nat → Nat} {k : Nat → ClassId} {sg : Nat → Int32} {ci : Int32} {od : Nat → Int32} {go : Nat → Int32} {ta : Nat → Int32} {we : Int32} {oe : Nat → Int32} {fp : Nat → Int32} {ro : Nat → Int64} {sp : Nat → Int64} {qr : Nat} {qs : Nat} {rec6 : Int32 → (Nat → Int32) → Int32 → (Nat → Int32) → Option (Int32 × (Nat → Int32))} (C : cx D [(k 1, .int), (k 2, .int), (k 3, .int), (k 4, .int), (k 5, .boolean), (k 6, .int), (k 8, .int), (k 9, .int), (k 11, .long)] R_B b_B_fault 2 (some .int) A p s m args meth c) (hrec6 : H_B_fault_6 p l e s m args below meth c D A a k sg ci od go ta we oe fp ro sp qr qs rec6) : H_B_fault_6 p l e s m args below meth c D A a k sg ci od go ta we oe fp ro sp qr qs (J_B_fault_6 rec6) := by
  obtain ⟨hx, hb, hr, hml, hown, ht, hlk, hA, hK⟩ := id C
  intro x1 lab cc sd r h H locs ls hP hD hS hl
  unfold J_B_fault_6 at h
  refine lv_iload_n hx hb d_B_fault_6 rfl (lv_at hl 1 rfl) ?_
  refine lv_bipush (v := 99) hx hb d_B_fault_7 (by decide) ?_
  refine lv_icmp_gt (tgt := 39) hx hb d_B_fault_9 (by decide) (fun c_1 => ?_) (fun c_1 => ?_)
  · have h := ite_T c_1 h
    refine lv_iconst (v := 0) hx hb d_B_fault_39 (by decide) ?_
    cases h
    exact W.iret hx hb hr (fun t ht hW => ⟨⟨_, (), rfl, rfl, by rw [ht]; exact hP, va_K.moved hW.alike hK, hD⟩, hS.F ht⟩) hS.2.2 d_B_fault_40 hlk
  · have h := ite_F c_1 h
    refine lv_aload_n hx hb d_B_fault_12 rfl (lv_at hl 0 rfl) ?_
    refine va_get (D := D) (ci := 0) (v := .ref (a 4)) (C := R_B) (T := F_B) (N := 11) hx hb ht iC_B hown hK hP 0 rfl rfl 5 (by decide) (ht _ ix_41) (fun _ h9 => h9) rfl d_B_fault_13 ?_
    refine lv_iload_n hx hb d_B_fault_16 rfl (lv_at hl 1 rfl) ?_
    obtain ⟨g_2, h⟩ := gd_some h
    refine va_iald hx hb hK hP 4 3 rfl rfl (inb_in g_2) d_B_fault_17 ?_
    refine lv_if_eq (tgt := 33) hx hb d_B_fault_18 (by decide) (fun c_3 => ?_) (fun c_3 => ?_)
    · have h := ite_T c_3 h
      refine lv_iinc (v := x1 + 1) (lv' := [(1, .int (x1 + 1)), (0, .ref (a 0))]) hx hb d_B_fault_33 hl (k := 1) rfl rfl (by decide) rfl (fun ls hl => ?_)
      refine lv_goto (tgt := 6) hx hb d_B_fault_36 (by decide) ?_
      exact hrec6 _ _ _ _ _ h _ _ _ hP hD hS (lv_sub hl [1, 0] rfl)
    · have h := ite_F c_3 h
      refine lv_aload_n hx hb d_B_fault_21 rfl (lv_at hl 0 rfl) ?_
      refine va_get (D := D) (ci := 0) (v := .ref (a 4)) (C := R_B) (T := F_B) (N := 11) hx hb ht iC_B hown hK hP 0 rfl rfl 5 (by decide) (ht _ ix_41) (fun _ h9 => h9) rfl d_B_fault_22 ?_
      refine lv_iload_n hx hb d_B_fault_25 rfl (lv_at hl 1 rfl) ?_
      obtain ⟨g_4, h⟩ := gd_some h
      refine va_iald hx hb hK hP 4 3 rfl rfl (inb_in g_4) d_B_fault_26 ?_
      refine lv_iconst (v := 2) hx hb d_B_fault_27 (by decide) ?_
      refine lv_icmp_eq (tgt := 33) hx hb d_B_fault_28 (by decide) (fun c_5 => ?_) (fun c_5 => ?_)
      · have h := ite_T c_5 h
        refine lv_iinc (v := x1 + 1) (lv' := [(1, .int (x1 + 1)), (0, .ref (a 0))]) hx hb d_B_fault_33 hl (k := 1) rfl rfl (by decide) rfl (fun ls hl => ?_)
        refine lv_goto (tgt := 6) hx hb d_B_fault_36 (by decide) ?_
        exact hrec6 _ _ _ _ _ h _ _ _ hP hD hS (lv_sub hl [1, 0] rfl)
      · have h := ite_F c_5 h
        refine lv_iload_n hx hb d_B_fault_31 rfl (lv_at hl 1 rfl) ?_
        cases h
        exact W.iret hx hb hr (fun t ht hW => ⟨⟨_, (), rfl, rfl, by rw [ht]; exact hP, va_K.moved hW.alike hK, hD⟩, hS.F ht⟩) hS.2.2 d_B_fault_32 hlk
theorem k_B_fault_6_L {p : Program} {l : Launch} {e : Env} {s : State} {m : MethodId} {args : Array Value} {below : List Frame} {meth : Method} {c : Code} {D : va_G} {A : Nat → Prop} {a : Nat → Nat} {k : Nat → ClassId} {sg : Nat → Int32} {ci : Int32} {od : Nat → Int32} {go : Nat → Int32} {ta : Nat → Int32} {we : Int32} {oe : Nat → Int32} {fp : Nat → Int32} {ro : Nat → Int64} {sp : Nat → Int64} {qr : Nat} {qs : Nat} (C : cx D [(k 1, .int), (k 2, .int), (k 3, .int), (k 4, .int), (k 5, .boolean), (k 6, .int), (k 8, .int), (k 9, .int), (k 11, .long)] R_B b_B_fault 2 (some .int) A p s m args meth c) : ∀ n : Nat, H_B_fault_6 p l e s m args below meth c D A a k sg ci od go ta we oe fp ro sp qr qs (L_B_fault_6 n)
  | 0 => fun _ _ _ _ _ h => nomatch h
  | n + 1 => k_B_fault_6 C (k_B_fault_6_L C n)
set_option maxHeartbeats 4000000 in
set_option maxRecDepth 100000 in
theorem k_B_fault_0 {p : Program} {l : Launch} {e : Env} {s : State} {m : MethodId} {args : Array Value} {below : List Frame} {meth : Method} {c : Code} {D : va_G} {A : Nat → Prop} {a : Nat → Nat} {k : Nat → ClassId} {sg : Nat → Int32} {ci : Int32} {od : Nat → Int32} {go : Nat → Int32} {ta : Nat → Int32} {we : Int32} {oe : Nat → Int32} {fp : Nat → Int32} {ro : Nat → Int64} {sp : Nat → Int64} {qr : Nat} {qs : Nat} (C : cx D [(k 1, .int), (k 2, .int), (k 3, .int), (k 4, .int), (k 5, .boolean), (k 6, .int), (k 8, .int), (k 9, .int), (k 11, .long)] R_B b_B_fault 2 (some .int) A p s m args meth c) : H_B_fault_0 p l e s m args below meth c D A a k sg ci od go ta we oe fp ro sp qr qs (J_B_fault_0) := by
  obtain ⟨hx, hb, hr, hml, hown, ht, hlk, hA, hK⟩ := id C
  intro lab cc sd r h H locs ls hP hD hS hl
  unfold J_B_fault_0 at h
  refine lv_aload_n hx hb d_B_fault_0 rfl (lv_at hl 0 rfl) ?_
  obtain ⟨v_1, e_1, h⟩ := bd_some h
  refine go_Vv (As := []) (rest := []) (wc := (wB a k lab sg cc ci od sd go ta we oe fp ro sp qr qs)) (wr := []) (w1 := (wB a k lab sg cc ci od v_1 go ta we oe fp ro sp qr qs)) (w2 := (wB a k lab sg cc ci od v_1 go ta we oe fp ro sp qr qs)) (tc := [(k 1, .int), (k 2, .int), (k 3, .int), (k 4, .int), (k 5, .boolean), (k 6, .int), (k 8, .int), (k 9, .int), (k 11, .long)]) hx hb hml hown ht (c_B_countStanding l D a k H.size lab sg cc ci od sd go ta we oe fp ro sp qr qs v_1 e_1) g_B_61 ⟨rfl, rfl⟩ (n := 0) (by decide +kernel) ⟨(Nat.le_of_ble_eq_true rfl), (Nat.le_of_ble_eq_true rfl)⟩ hP hD hK hS hA ⟨Nat.zero_le _, Nat.zero_le _⟩ [0, 1, 2, 3, 4, 5, 6, 7, 8, 9, 10, 11, 12] [] [0, 1, 2, 3, 4, 5, 6, 7, 8] [0, 1, 2, 3, 4, 5, 6, 7, 8, 9, 10, 11, 12] rfl rfl rfl rfl (by decide) (by decide) (by decide) rfl (by decide) 0 rfl rfl rfl rfl rfl hl.1 (Nat.le_of_ble_eq_true rfl) d_B_fault_1 (fun H locs hP hD hS => ?_)
  refine lv_iconst (v := 1) hx hb d_B_fault_4 (by decide) ?_
  refine lv_istore_n (lv' := [(1, .int (1 : Int32)), (0, .ref (a 0))]) hx hb d_B_fault_5 rfl hl (by decide) rfl (fun ls hl => ?_)
  exact (k_B_fault_6_L C fu) _ _ _ _ _ h _ _ _ hP hD hS (lv_sub hl [1, 0] rfl)
set_option maxRecDepth 20000 in
theorem c_B_fault (l : Launch) (D : va_G) (a : Nat → Nat) (k : Nat → ClassId) (sz : Nat) (lab : Nat → Int32) (sg : Nat → Int32) (cc : Int32) (ci : Int32) (od : Nat → Int32) (sd : Nat → Int32) (go : Nat → Int32) (ta : Nat → Int32) (we : Int32) (oe : Nat → Int32) (fp : Nat → Int32) (ro : Nat → Int64) (sp : Nat → Int64) (qr : Nat) (qs : Nat) (r : Int32 × (Nat → Int32)) (h : F_B_fault lab cc sd = some r) : Met l y_B_fault (Cond.code y_B_fault b_B_fault 2 (some .int) :: lw_g) (rm_B_fault) (va_Pc [.ref (a 0)] (pcW D [(k 1, .int), (k 2, .int), (k 3, .int), (k 4, .int), (k 5, .boolean), (k 6, .int), (k 8, .int), (k 9, .int), (k 11, .long)] (wB a k lab sg cc ci od sd go ta we oe fp ro sp qr qs) sz)) (qc_B_fault D (va_A (wB a k lab sg cc ci od sd go ta we oe fp ro sp qr qs) sz) a k lab sg cc ci od go ta we oe fp ro sp qr qs r) 0 0 (va_A (wB a k lab sg cc ci od sd go ta we oe fp ro sp qr qs) sz) := by
  refine Met.ofW (cc := b_B_fault) (maxL := 2) (ret := (some .int)) (by decide) rfl ?_
  intro p e s m args below meth c s₁ B hml hv
  obtain ⟨rfl, hsz, hP, hK, hD0⟩ := hv
  have hts := atoms_spec (ws := Cond.code y_B_fault b_B_fault 2 (some .int) :: lw_g) B.pre
  subst hsz
  have hD := hD0.self (sz := s.heap.size)
  have hl := lv_entry ([.ref (a 0)]) (n := 2) (Nat.le_of_ble_eq_true rfl)
  rw [lg_entry_eq]
  generalize (lg_sl ([.ref (a 0)]) ++ List.replicate (2 - (lg_sl ([.ref (a 0)])).length) Slot.unset).toArray = ls at hl ⊢
  exact k_B_fault_0 ⟨B.exec, B.bytes, B.returns, hml, findClass_of_methodNamed B.named, fun w hw => hts w (List.mem_cons_of_mem _ hw), B.notSynchronized, fun q h => Or.inr h, hK⟩ _ _ _ _ h _ _ _ hP hD va_S.rf hl

def rm_B_isCode : Room := { frames := 3, cells := 0, slots := 0, locals := 65 }
def qc_B_isCode (D : va_G) (A : Nat → Prop) (a : Nat → Nat) (k : Nat → ClassId) (lab : Nat → Int32) (sg : Nat → Int32) (cc : Int32) (ci : Int32) (od : Nat → Int32) (go : Nat → Int32) (ta : Nat → Int32) (we : Int32) (oe : Nat → Int32) (fp : Nat → Int32) (ro : Nat → Int64) (sp : Nat → Int64) (qr : Nat) (qs : Nat) (r : Int32 × (Nat → Int32)) : Array Value → State → Outcome → State → Prop := va_Qi (fun (r1 : Int32) (_ : Unit) => r1 = r.1) (poW D [(k 1, .int), (k 2, .int), (k 3, .int), (k 4, .int), (k 5, .boolean), (k 6, .int), (k 8, .int), (k 9, .int), (k 11, .long)] (wB a k lab sg cc ci od r.2 go ta we oe fp ro sp qr qs) A) A
def J_B_isCode_0 (lab : Nat → Int32) (cc : Int32) (sd : Nat → Int32) : Option (Int32 × (Nat → Int32)) :=
  (Option.bind (F_B_fault lab cc sd) (fun v_1 => (if v_1.1 = 0 then some ((1 : Int32), v_1.2) else some ((0 : Int32), v_1.2))))
def F_B_isCode (lab : Nat → Int32) (cc : Int32) (sd : Nat → Int32) : Option (Int32 × (Nat → Int32)) := J_B_isCode_0 lab cc sd
def H_B_isCode_0 (p : Program) (l : Launch) (e : Env) (s : State) (m : MethodId) (args : Array Value) (below : List Frame) (meth : Method) (c : Code) (D : va_G) (A : Nat → Prop) (a : Nat → Nat) (k : Nat → ClassId) (sg : Nat → Int32) (ci : Int32) (od : Nat → Int32) (go : Nat → Int32) (ta : Nat → Int32) (we : Int32) (oe : Nat → Int32) (fp : Nat → Int32) (ro : Nat → Int64) (sp : Nat → Int64) (qr : Nat) (qs : Nat) (f : (Nat → Int32) → Int32 → (Nat → Int32) → Option (Int32 × (Nat → Int32))) : Prop := ∀ (lab : Nat → Int32) (cc : Int32) (sd : Nat → Int32) (r : Int32 × (Nat → Int32)), f lab cc sd = some r → ∀ (H : Heap) (locs : List Loc) (ls : Array Slot), va_P D classes (wB a k lab sg cc ci od sd go ta we oe fp ro sp qr qs) H → va_D A (wB a k lab sg cc ci od sd go ta we oe fp ro sp qr qs) → va_S A s.heap H locs → lv_has ls 1 [(0, .ref (a 0))] → W p l e (rm_B_isCode) s m args below meth c H locs 0 0 (MQ below (qc_B_isCode D A a k lab sg cc ci od go ta we oe fp ro sp qr qs r) args s 0 0 A) (F0 m 0 ls [])
set_option maxHeartbeats 4000000 in
set_option maxRecDepth 100000 in
theorem k_B_isCode_0 {p : Program} {l : Launch} {e : Env} {s : State} {m : MethodId} {args : Array Value} {below : List Frame} {meth : Method} {c : Code} {D : va_G} {A : Nat → Prop} {a : Nat → Nat} {k : Nat → ClassId} {sg : Nat → Int32} {ci : Int32} {od : Nat → Int32} {go : Nat → Int32} {ta : Nat → Int32} {we : Int32} {oe : Nat → Int32} {fp : Nat → Int32} {ro : Nat → Int64} {sp : Nat → Int64} {qr : Nat} {qs : Nat} (C : cx D [(k 1, .int), (k 2, .int), (k 3, .int), (k 4, .int), (k 5, .boolean), (k 6, .int), (k 8, .int), (k 9, .int), (k 11, .long)] R_B b_B_isCode 1 (some .boolean) A p s m args meth c) : H_B_isCode_0 p l e s m args below meth c D A a k sg ci od go ta we oe fp ro sp qr qs (J_B_isCode_0) := by
  obtain ⟨hx, hb, hr, hml, hown, ht, hlk, hA, hK⟩ := id C
  intro lab cc sd r h H locs ls hP hD hS hl
  unfold J_B_isCode_0 at h
  refine lv_aload_n hx hb d_B_isCode_0 rfl (lv_at hl 0 rfl) ?_
  obtain ⟨v_1, e_1, h⟩ := bd_some h
  refine go_Vi (r := v_1.1) (As := []) (rest := []) (wc := (wB a k lab sg cc ci od sd go ta we oe fp ro sp qr qs)) (wr := []) (w1 := (wB a k lab sg cc ci od v_1.2 go ta we oe fp ro sp qr qs)) (w2 := (wB a k lab sg cc ci od v_1.2 go ta we oe fp ro sp qr qs)) (tc := [(k 1, .int), (k 2, .int), (k 3, .int), (k 4, .int), (k 5, .boolean), (k 6, .int), (k 8, .int), (k 9, .int), (k 11, .long)]) hx hb hml hown ht (c_B_fault l D a k H.size lab sg cc ci od sd go ta we oe fp ro sp qr qs v_1 e_1) g_B_131 ⟨rfl, rfl⟩ (n := 0) (by decide +kernel) ⟨(Nat.le_of_ble_eq_true rfl), (Nat.le_of_ble_eq_true rfl)⟩ hP hD hK hS hA ⟨Nat.zero_le _, Nat.zero_le _⟩ [0, 1, 2, 3, 4, 5, 6, 7, 8, 9, 10, 11, 12] [] [0, 1, 2, 3, 4, 5, 6, 7, 8] [0, 1, 2, 3, 4, 5, 6, 7, 8, 9, 10, 11, 12] rfl rfl rfl rfl (by decide) (by decide) (by decide) rfl (by decide) 0 rfl rfl rfl rfl rfl hl.1 (Nat.le_of_ble_eq_true rfl) d_B_isCode_1 (fun H locs hP hD hS => ?_)
  refine lv_if_ne (tgt := 11) hx hb d_B_isCode_4 (by decide) (fun c_2 => ?_) (fun c_2 => ?_)
  · have h := ite_F c_2 h
    refine lv_iconst (v := 0) hx hb d_B_isCode_11 (by decide) ?_
    cases h
    exact W.zret hx hb hr rfl (fun t ht hW => ⟨⟨_, (), rfl, rfl, by rw [ht]; exact hP, va_K.moved hW.alike hK, hD⟩, hS.F ht⟩) hS.2.2 d_B_isCode_12 hlk
  · have h := ite_T c_2 h
    refine lv_iconst (v := 1) hx hb d_B_isCode_7 (by decide) ?_
    refine lv_goto (tgt := 12) hx hb d_B_isCode_8 (by decide) ?_
    cases h
    exact W.zret hx hb hr rfl (fun t ht hW => ⟨⟨_, (), rfl, rfl, by rw [ht]; exact hP, va_K.moved hW.alike hK, hD⟩, hS.F ht⟩) hS.2.2 d_B_isCode_12 hlk
set_option maxRecDepth 20000 in
theorem c_B_isCode (l : Launch) (D : va_G) (a : Nat → Nat) (k : Nat → ClassId) (sz : Nat) (lab : Nat → Int32) (sg : Nat → Int32) (cc : Int32) (ci : Int32) (od : Nat → Int32) (sd : Nat → Int32) (go : Nat → Int32) (ta : Nat → Int32) (we : Int32) (oe : Nat → Int32) (fp : Nat → Int32) (ro : Nat → Int64) (sp : Nat → Int64) (qr : Nat) (qs : Nat) (r : Int32 × (Nat → Int32)) (h : F_B_isCode lab cc sd = some r) : Met l y_B_isCode (Cond.code y_B_isCode b_B_isCode 1 (some .boolean) :: lw_g) (rm_B_isCode) (va_Pc [.ref (a 0)] (pcW D [(k 1, .int), (k 2, .int), (k 3, .int), (k 4, .int), (k 5, .boolean), (k 6, .int), (k 8, .int), (k 9, .int), (k 11, .long)] (wB a k lab sg cc ci od sd go ta we oe fp ro sp qr qs) sz)) (qc_B_isCode D (va_A (wB a k lab sg cc ci od sd go ta we oe fp ro sp qr qs) sz) a k lab sg cc ci od go ta we oe fp ro sp qr qs r) 0 0 (va_A (wB a k lab sg cc ci od sd go ta we oe fp ro sp qr qs) sz) := by
  refine Met.ofW (cc := b_B_isCode) (maxL := 1) (ret := (some .boolean)) (by decide) rfl ?_
  intro p e s m args below meth c s₁ B hml hv
  obtain ⟨rfl, hsz, hP, hK, hD0⟩ := hv
  have hts := atoms_spec (ws := Cond.code y_B_isCode b_B_isCode 1 (some .boolean) :: lw_g) B.pre
  subst hsz
  have hD := hD0.self (sz := s.heap.size)
  have hl := lv_entry ([.ref (a 0)]) (n := 1) (Nat.le_of_ble_eq_true rfl)
  rw [lg_entry_eq]
  generalize (lg_sl ([.ref (a 0)]) ++ List.replicate (1 - (lg_sl ([.ref (a 0)])).length) Slot.unset).toArray = ls at hl ⊢
  exact k_B_isCode_0 ⟨B.exec, B.bytes, B.returns, hml, findClass_of_methodNamed B.named, fun w hw => hts w (List.mem_cons_of_mem _ hw), B.notSynchronized, fun q h => Or.inr h, hK⟩ _ _ _ _ h _ _ _ hP hD va_S.rf hl

def rm_B_sumOfSigns : Room := { frames := 0, cells := 0, slots := 0, locals := 0 }
def qc_B_sumOfSigns (D : va_G) (A : Nat → Prop) (a : Nat → Nat) (k : Nat → ClassId) (lab : Nat → Int32) (sg : Nat → Int32) (cc : Int32) (ci : Int32) (od : Nat → Int32) (sd : Nat → Int32) (go : Nat → Int32) (ta : Nat → Int32) (we : Int32) (oe : Nat → Int32) (fp : Nat → Int32) (ro : Nat → Int64) (sp : Nat → Int64) (qr : Nat) (qs : Nat) (r : Int32) : Array Value → State → Outcome → State → Prop := va_Qi (fun (r1 : Int32) (_ : Unit) => r1 = r) (poW D [(k 1, .int), (k 2, .int), (k 3, .int), (k 4, .int), (k 5, .boolean), (k 6, .int), (k 8, .int), (k 9, .int), (k 11, .long)] (wB a k lab sg cc ci od sd go ta we oe fp ro sp qr qs) A) A
def J_B_sumOfSigns_4 (rec4 : Int32 → Int32 → (Nat → Int32) → Int32 → Option (Int32)) (x1 : Int32) (x2 : Int32) (sg : Nat → Int32) (cc : Int32) : Option (Int32) :=
  (if cc ≤ x2 then some (x1) else (if inb x2 10 then rec4 (x1 + (sg x2.toNatClampNeg)) (x2 + 1) sg cc else none))
def L_B_sumOfSigns_4 : Nat → Int32 → Int32 → (Nat → Int32) → Int32 → Option (Int32)
  | 0 => fun _ _ _ _ => none
  | n + 1 => J_B_sumOfSigns_4 (L_B_sumOfSigns_4 n)
def J_B_sumOfSigns_0 (sg : Nat → Int32) (cc : Int32) : Option (Int32) :=
  L_B_sumOfSigns_4 fu (0 : Int32) (0 : Int32) sg cc
def F_B_sumOfSigns (sg : Nat → Int32) (cc : Int32) : Option (Int32) := J_B_sumOfSigns_0 sg cc
def H_B_sumOfSigns_4 (p : Program) (l : Launch) (e : Env) (s : State) (m : MethodId) (args : Array Value) (below : List Frame) (meth : Method) (c : Code) (D : va_G) (A : Nat → Prop) (a : Nat → Nat) (k : Nat → ClassId) (lab : Nat → Int32) (ci : Int32) (od : Nat → Int32) (sd : Nat → Int32) (go : Nat → Int32) (ta : Nat → Int32) (we : Int32) (oe : Nat → Int32) (fp : Nat → Int32) (ro : Nat → Int64) (sp : Nat → Int64) (qr : Nat) (qs : Nat) (f : Int32 → Int32 → (Nat → Int32) → Int32 → Option (Int32)) : Prop := ∀ (x1 : Int32) (x2 : Int32) (sg : Nat → Int32) (cc : Int32) (r : Int32), f x1 x2 sg cc = some r → ∀ (H : Heap) (locs : List Loc) (ls : Array Slot), va_P D classes (wB a k lab sg cc ci od sd go ta we oe fp ro sp qr qs) H → va_D A (wB a k lab sg cc ci od sd go ta we oe fp ro sp qr qs) → va_S A s.heap H locs → lv_has ls 3 [(0, .ref (a 0)), (1, .int x1), (2, .int x2)] → W p l e (rm_B_sumOfSigns) s m args below meth c H locs 0 0 (MQ below (qc_B_sumOfSigns D A a k lab sg cc ci od sd go ta we oe fp ro sp qr qs r) args s 0 0 A) (F0 m 4 ls [])
def H_B_sumOfSigns_0 (p : Program) (l : Launch) (e : Env) (s : State) (m : MethodId) (args : Array Value) (below : List Frame) (meth : Method) (c : Code) (D : va_G) (A : Nat → Prop) (a : Nat → Nat) (k : Nat → ClassId) (lab : Nat → Int32) (ci : Int32) (od : Nat → Int32) (sd : Nat → Int32) (go : Nat → Int32) (ta : Nat → Int32) (we : Int32) (oe : Nat → Int32) (fp : Nat → Int32) (ro : Nat → Int64) (sp : Nat → Int64) (qr : Nat) (qs : Nat) (f : (Nat → Int32) → Int32 → Option (Int32)) : Prop := ∀ (sg : Nat → Int32) (cc : Int32) (r : Int32), f sg cc = some r → ∀ (H : Heap) (locs : List Loc) (ls : Array Slot), va_P D classes (wB a k lab sg cc ci od sd go ta we oe fp ro sp qr qs) H → va_D A (wB a k lab sg cc ci od sd go ta we oe fp ro sp qr qs) → va_S A s.heap H locs → lv_has ls 3 [(0, .ref (a 0))] → W p l e (rm_B_sumOfSigns) s m args below meth c H locs 0 0 (MQ below (qc_B_sumOfSigns D A a k lab sg cc ci od sd go ta we oe fp ro sp qr qs r) args s 0 0 A) (F0 m 0 ls [])
set_option maxHeartbeats 4000000 in
set_option maxRecDepth 100000 in
theorem k_B_sumOfSigns_4 {p : Program} {l : Launch} {e : Env} {s : State} {m : MethodId} {args : Array Value} {below : List Frame} {meth : Method} {c : Code} {D : va_G} {A : Nat → Prop} {a : Nat → Nat} {k : Nat → ClassId} {lab : Nat → Int32} {ci : Int32} {od : Nat → Int32} {sd : Nat → Int32} {go : Nat → Int32} {ta : Nat → Int32} {we : Int32} {oe : Nat → Int32} {fp : Nat → Int32} {ro : Nat → Int64} {sp : Nat → Int64} {qr : Nat} {qs : Nat} {rec4 : Int32 → Int32 → (Nat → Int32) → Int32 → Option (Int32)} (C : cx D [(k 1, .int), (k 2, .int), (k 3, .int), (k 4, .int), (k 5, .boolean), (k 6, .int), (k 8, .int), (k 9, .int), (k 11, .long)] R_B b_B_sumOfSigns 3 (some .int) A p s m args meth c) (hrec4 : H_B_sumOfSigns_4 p l e s m args below meth c D A a k lab ci od sd go ta we oe fp ro sp qr qs rec4) : H_B_sumOfSigns_4 p l e s m args below meth c D A a k lab ci od sd go ta we oe fp ro sp qr qs (J_B_sumOfSigns_4 rec4) := by
  obtain ⟨hx, hb, hr, hml, hown, ht, hlk, hA, hK⟩ := id C
  intro x1 x2 sg cc r h H locs ls hP hD hS hl
  unfold J_B_sumOfSigns_4 at h
  refine lv_iload_n hx hb d_B_sumOfSigns_4 rfl (lv_at hl 2 rfl) ?_
  refine lv_aload_n hx hb d_B_sumOfSigns_5 rfl (lv_at hl 0 rfl) ?_
  refine va_get (D := D) (ci := 0) (v := .int cc) (C := R_B) (T := F_B) (N := 11) hx hb ht iC_B hown hK hP 0 rfl rfl 2 (by decide) (ht _ ix_38) (fun _ h9 => h9) rfl d_B_sumOfSigns_6 ?_
  refine lv_icmp_ge (tgt := 27) hx hb d_B_sumOfSigns_9 (by decide) (fun c_1 => ?_) (fun c_1 => ?_)
  · have h := ite_T c_1 h
    refine lv_iload_n hx hb d_B_sumOfSigns_27 rfl (lv_at hl 1 rfl) ?_
    cases h
    exact W.iret hx hb hr (fun t ht hW => ⟨⟨_, (), rfl, rfl, by rw [ht]; exact hP, va_K.moved hW.alike hK, hD⟩, hS.F ht⟩) hS.2.2 d_B_sumOfSigns_28 hlk
  · have h := ite_F c_1 h
    refine lv_iload_n hx hb d_B_sumOfSigns_12 rfl (lv_at hl 1 rfl) ?_
    refine lv_aload_n hx hb d_B_sumOfSigns_13 rfl (lv_at hl 0 rfl) ?_
    refine va_get (D := D) (ci := 0) (v := .ref (a 2)) (C := R_B) (T := F_B) (N := 11) hx hb ht iC_B hown hK hP 0 rfl rfl 1 (by decide) (ht _ ix_53) (fun _ h9 => h9) rfl d_B_sumOfSigns_14 ?_
    refine lv_iload_n hx hb d_B_sumOfSigns_17 rfl (lv_at hl 2 rfl) ?_
    obtain ⟨g_2, h⟩ := gd_some h
    refine va_iald hx hb hK hP 2 1 rfl rfl (inb_in g_2) d_B_sumOfSigns_18 ?_
    refine lv_iadd hx hb d_B_sumOfSigns_19 ?_
    refine lv_istore_n (lv' := [(1, .int (x1 + (sg x2.toNatClampNeg))), (0, .ref (a 0)), (2, .int x2)]) hx hb d_B_sumOfSigns_20 rfl hl (by decide) rfl (fun ls hl => ?_)
    refine lv_iinc (v := x2 + 1) (lv' := [(2, .int (x2 + 1)), (1, .int (x1 + (sg x2.toNatClampNeg))), (0, .ref (a 0))]) hx hb d_B_sumOfSigns_21 hl (k := 2) rfl rfl (by decide) rfl (fun ls hl => ?_)
    refine lv_goto (tgt := 4) hx hb d_B_sumOfSigns_24 (by decide) ?_
    exact hrec4 _ _ _ _ _ h _ _ _ hP hD hS (lv_sub hl [2, 1, 0] rfl)
theorem k_B_sumOfSigns_4_L {p : Program} {l : Launch} {e : Env} {s : State} {m : MethodId} {args : Array Value} {below : List Frame} {meth : Method} {c : Code} {D : va_G} {A : Nat → Prop} {a : Nat → Nat} {k : Nat → ClassId} {lab : Nat → Int32} {ci : Int32} {od : Nat → Int32} {sd : Nat → Int32} {go : Nat → Int32} {ta : Nat → Int32} {we : Int32} {oe : Nat → Int32} {fp : Nat → Int32} {ro : Nat → Int64} {sp : Nat → Int64} {qr : Nat} {qs : Nat} (C : cx D [(k 1, .int), (k 2, .int), (k 3, .int), (k 4, .int), (k 5, .boolean), (k 6, .int), (k 8, .int), (k 9, .int), (k 11, .long)] R_B b_B_sumOfSigns 3 (some .int) A p s m args meth c) : ∀ n : Nat, H_B_sumOfSigns_4 p l e s m args below meth c D A a k lab ci od sd go ta we oe fp ro sp qr qs (L_B_sumOfSigns_4 n)
  | 0 => fun _ _ _ _ _ h => nomatch h
  | n + 1 => k_B_sumOfSigns_4 C (k_B_sumOfSigns_4_L C n)
set_option maxHeartbeats 4000000 in
set_option maxRecDepth 100000 in
theorem k_B_sumOfSigns_0 {p : Program} {l : Launch} {e : Env} {s : State} {m : MethodId} {args : Array Value} {below : List Frame} {meth : Method} {c : Code} {D : va_G} {A : Nat → Prop} {a : Nat → Nat} {k : Nat → ClassId} {lab : Nat → Int32} {ci : Int32} {od : Nat → Int32} {sd : Nat → Int32} {go : Nat → Int32} {ta : Nat → Int32} {we : Int32} {oe : Nat → Int32} {fp : Nat → Int32} {ro : Nat → Int64} {sp : Nat → Int64} {qr : Nat} {qs : Nat} (C : cx D [(k 1, .int), (k 2, .int), (k 3, .int), (k 4, .int), (k 5, .boolean), (k 6, .int), (k 8, .int), (k 9, .int), (k 11, .long)] R_B b_B_sumOfSigns 3 (some .int) A p s m args meth c) : H_B_sumOfSigns_0 p l e s m args below meth c D A a k lab ci od sd go ta we oe fp ro sp qr qs (J_B_sumOfSigns_0) := by
  obtain ⟨hx, hb, hr, hml, hown, ht, hlk, hA, hK⟩ := id C
  intro sg cc r h H locs ls hP hD hS hl
  unfold J_B_sumOfSigns_0 at h
  refine lv_iconst (v := 0) hx hb d_B_sumOfSigns_0 (by decide) ?_
  refine lv_istore_n (lv' := [(1, .int (0 : Int32)), (0, .ref (a 0))]) hx hb d_B_sumOfSigns_1 rfl hl (by decide) rfl (fun ls hl => ?_)
  refine lv_iconst (v := 0) hx hb d_B_sumOfSigns_2 (by decide) ?_
  refine lv_istore_n (lv' := [(2, .int (0 : Int32)), (1, .int (0 : Int32)), (0, .ref (a 0))]) hx hb d_B_sumOfSigns_3 rfl hl (by decide) rfl (fun ls hl => ?_)
  exact (k_B_sumOfSigns_4_L C fu) _ _ _ _ _ h _ _ _ hP hD hS (lv_sub hl [2, 1, 0] rfl)
set_option maxRecDepth 20000 in
theorem c_B_sumOfSigns (l : Launch) (D : va_G) (a : Nat → Nat) (k : Nat → ClassId) (sz : Nat) (lab : Nat → Int32) (sg : Nat → Int32) (cc : Int32) (ci : Int32) (od : Nat → Int32) (sd : Nat → Int32) (go : Nat → Int32) (ta : Nat → Int32) (we : Int32) (oe : Nat → Int32) (fp : Nat → Int32) (ro : Nat → Int64) (sp : Nat → Int64) (qr : Nat) (qs : Nat) (r : Int32) (h : F_B_sumOfSigns sg cc = some r) : Met l y_B_sumOfSigns (Cond.code y_B_sumOfSigns b_B_sumOfSigns 3 (some .int) :: lw_g) (rm_B_sumOfSigns) (va_Pc [.ref (a 0)] (pcW D [(k 1, .int), (k 2, .int), (k 3, .int), (k 4, .int), (k 5, .boolean), (k 6, .int), (k 8, .int), (k 9, .int), (k 11, .long)] (wB a k lab sg cc ci od sd go ta we oe fp ro sp qr qs) sz)) (qc_B_sumOfSigns D (va_A (wB a k lab sg cc ci od sd go ta we oe fp ro sp qr qs) sz) a k lab sg cc ci od sd go ta we oe fp ro sp qr qs r) 0 0 (va_A (wB a k lab sg cc ci od sd go ta we oe fp ro sp qr qs) sz) := by
  refine Met.ofW (cc := b_B_sumOfSigns) (maxL := 3) (ret := (some .int)) (by decide) rfl ?_
  intro p e s m args below meth c s₁ B hml hv
  obtain ⟨rfl, hsz, hP, hK, hD0⟩ := hv
  have hts := atoms_spec (ws := Cond.code y_B_sumOfSigns b_B_sumOfSigns 3 (some .int) :: lw_g) B.pre
  subst hsz
  have hD := hD0.self (sz := s.heap.size)
  have hl := lv_entry ([.ref (a 0)]) (n := 3) (Nat.le_of_ble_eq_true rfl)
  rw [lg_entry_eq]
  generalize (lg_sl ([.ref (a 0)]) ++ List.replicate (3 - (lg_sl ([.ref (a 0)])).length) Slot.unset).toArray = ls at hl ⊢
  exact k_B_sumOfSigns_0 ⟨B.exec, B.bytes, B.returns, hml, findClass_of_methodNamed B.named, fun w hw => hts w (List.mem_cons_of_mem _ hw), B.notSynchronized, fun q h => Or.inr h, hK⟩ _ _ _ h _ _ _ hP hD va_S.rf hl

def rm_B_lookAtAll : Room := { frames := 1, cells := 0, slots := 0, locals := 22 }
def qc_B_lookAtAll (D : va_G) (A : Nat → Prop) (a : Nat → Nat) (k : Nat → ClassId) (lab : Nat → Int32) (sg : Nat → Int32) (cc : Int32) (ci : Int32) (od : Nat → Int32) (sd : Nat → Int32) (go : Nat → Int32) (ta : Nat → Int32) (we : Int32) (oe : Nat → Int32) (fp : Nat → Int32) (ro : Nat → Int64) (sp : Nat → Int64) (qr : Nat) (qs : Nat) (r : Int32) : Array Value → State → Outcome → State → Prop := va_Qi (fun (r1 : Int32) (_ : Unit) => r1 = r) (poW D [(k 1, .int), (k 2, .int), (k 3, .int), (k 4, .int), (k 5, .boolean), (k 6, .int), (k 8, .int), (k 9, .int), (k 11, .long)] (wB a k lab sg cc ci od sd go ta we oe fp ro sp qr qs) A) A
def J_B_lookAtAll_0 (x1 : Int32) (sg : Nat → Int32) (cc : Int32) (ci : Int32) : Option (Int32) :=
  (if x1 = 0 then some (cc) else (if x1 = 1 then some (ci) else (if x1 = 2 then (Option.bind (F_B_sumOfSigns sg cc) (fun v_4 => some (v_4))) else some ((-1000 : Int32)))))
def F_B_lookAtAll (x1 : Int32) (sg : Nat → Int32) (cc : Int32) (ci : Int32) : Option (Int32) := J_B_lookAtAll_0 x1 sg cc ci
def H_B_lookAtAll_0 (p : Program) (l : Launch) (e : Env) (s : State) (m : MethodId) (args : Array Value) (below : List Frame) (meth : Method) (c : Code) (D : va_G) (A : Nat → Prop) (a : Nat → Nat) (k : Nat → ClassId) (lab : Nat → Int32) (od : Nat → Int32) (sd : Nat → Int32) (go : Nat → Int32) (ta : Nat → Int32) (we : Int32) (oe : Nat → Int32) (fp : Nat → Int32) (ro : Nat → Int64) (sp : Nat → Int64) (qr : Nat) (qs : Nat) (f : Int32 → (Nat → Int32) → Int32 → Int32 → Option (Int32)) : Prop := ∀ (x1 : Int32) (sg : Nat → Int32) (cc : Int32) (ci : Int32) (r : Int32), f x1 sg cc ci = some r → ∀ (H : Heap) (locs : List Loc) (ls : Array Slot), va_P D classes (wB a k lab sg cc ci od sd go ta we oe fp ro sp qr qs) H → va_D A (wB a k lab sg cc ci od sd go ta we oe fp ro sp qr qs) → va_S A s.heap H locs → lv_has ls 2 [(0, .ref (a 0)), (1, .int x1)] → W p l e (rm_B_lookAtAll) s m args below meth c H locs 0 0 (MQ below (qc_B_lookAtAll D A a k lab sg cc ci od sd go ta we oe fp ro sp qr qs r) args s 0 0 A) (F0 m 0 ls [])
set_option maxHeartbeats 4000000 in
set_option maxRecDepth 100000 in
theorem k_B_lookAtAll_0 {p : Program} {l : Launch} {e : Env} {s : State} {m : MethodId} {args : Array Value} {below : List Frame} {meth : Method} {c : Code} {D : va_G} {A : Nat → Prop} {a : Nat → Nat} {k : Nat → ClassId} {lab : Nat → Int32} {od : Nat → Int32} {sd : Nat → Int32} {go : Nat → Int32} {ta : Nat → Int32} {we : Int32} {oe : Nat → Int32} {fp : Nat → Int32} {ro : Nat → Int64} {sp : Nat → Int64} {qr : Nat} {qs : Nat} (C : cx D [(k 1, .int), (k 2, .int), (k 3, .int), (k 4, .int), (k 5, .boolean), (k 6, .int), (k 8, .int), (k 9, .int), (k 11, .long)] R_B b_B_lookAtAll 2 (some .int) A p s m args meth c) : H_B_lookAtAll_0 p l e s m args below meth c D A a k lab od sd go ta we oe fp ro sp qr qs (J_B_lookAtAll_0) := by
  obtain ⟨hx, hb, hr, hml, hown, ht, hlk, hA, hK⟩ := id C
  intro x1 sg cc ci r h H locs ls hP hD hS hl
  unfold J_B_lookAtAll_0 at h
  refine lv_iload_n hx hb d_B_lookAtAll_0 rfl (lv_at hl 1 rfl) ?_
  by_cases c_1 : x1 = 0
  · have h := ite_T c_1 h
    refine lv_tableIn (tgt := 28) hx hb d_B_lookAtAll_1 (by rw [c_1]; decide) (by rw [c_1]; decide) (by rw [c_1]; rfl) (by decide) ?_
    refine lv_aload_n hx hb d_B_lookAtAll_28 rfl (lv_at hl 0 rfl) ?_
    refine va_get (D := D) (ci := 0) (v := .int cc) (C := R_B) (T := F_B) (N := 11) hx hb ht iC_B hown hK hP 0 rfl rfl 2 (by decide) (ht _ ix_38) (fun _ h9 => h9) rfl d_B_lookAtAll_29 ?_
    cases h
    exact W.iret hx hb hr (fun t ht hW => ⟨⟨_, (), rfl, rfl, by rw [ht]; exact hP, va_K.moved hW.alike hK, hD⟩, hS.F ht⟩) hS.2.2 d_B_lookAtAll_32 hlk
  have h := ite_F c_1 h
  by_cases c_2 : x1 = 1
  · have h := ite_T c_2 h
    refine lv_tableIn (tgt := 33) hx hb d_B_lookAtAll_1 (by rw [c_2]; decide) (by rw [c_2]; decide) (by rw [c_2]; rfl) (by decide) ?_
    refine lv_aload_n hx hb d_B_lookAtAll_33 rfl (lv_at hl 0 rfl) ?_
    refine va_get (D := D) (ci := 0) (v := .int ci) (C := R_B) (T := F_B) (N := 11) hx hb ht iC_B hown hK hP 0 rfl rfl 3 (by decide) (ht _ ix_54) (fun _ h9 => h9) rfl d_B_lookAtAll_34 ?_
    cases h
    exact W.iret hx hb hr (fun t ht hW => ⟨⟨_, (), rfl, rfl, by rw [ht]; exact hP, va_K.moved hW.alike hK, hD⟩, hS.F ht⟩) hS.2.2 d_B_lookAtAll_37 hlk
  have h := ite_F c_2 h
  by_cases c_3 : x1 = 2
  · have h := ite_T c_3 h
    refine lv_tableIn (tgt := 38) hx hb d_B_lookAtAll_1 (by rw [c_3]; decide) (by rw [c_3]; decide) (by rw [c_3]; rfl) (by decide) ?_
    refine lv_aload_n hx hb d_B_lookAtAll_38 rfl (lv_at hl 0 rfl) ?_
    obtain ⟨v_4, e_4, h⟩ := bd_some h
    refine go_Vi (r := v_4) (As := []) (rest := []) (wc := (wB a k lab sg cc ci od sd go ta we oe fp ro sp qr qs)) (wr := []) (w1 := (wB a k lab sg cc ci od sd go ta we oe fp ro sp qr qs)) (w2 := (wB a k lab sg cc ci od sd go ta we oe fp ro sp qr qs)) (tc := [(k 1, .int), (k 2, .int), (k 3, .int), (k 4, .int), (k 5, .boolean), (k 6, .int), (k 8, .int), (k 9, .int), (k 11, .long)]) hx hb hml hown ht (c_B_sumOfSigns l D a k H.size lab sg cc ci od sd go ta we oe fp ro sp qr qs v_4 e_4) g_B_95 ⟨rfl, rfl⟩ (n := 0) (by decide +kernel) ⟨(Nat.le_of_ble_eq_true rfl), (Nat.le_of_ble_eq_true rfl)⟩ hP hD hK hS hA ⟨Nat.zero_le _, Nat.zero_le _⟩ [0, 1, 2, 3, 4, 5, 6, 7, 8, 9, 10, 11, 12] [] [0, 1, 2, 3, 4, 5, 6, 7, 8] [0, 1, 2, 3, 4, 5, 6, 7, 8, 9, 10, 11, 12] rfl rfl rfl rfl (by decide) (by decide) (by decide) rfl (by decide) 0 rfl rfl rfl rfl rfl hl.1 (Nat.le_of_ble_eq_true rfl) d_B_lookAtAll_39 (fun H locs hP hD hS => ?_)
    cases h
    exact W.iret hx hb hr (fun t ht hW => ⟨⟨_, (), rfl, rfl, by rw [ht]; exact hP, va_K.moved hW.alike hK, hD⟩, hS.F ht⟩) hS.2.2 d_B_lookAtAll_42 hlk
  have h := ite_F c_3 h
  refine lv_tableOut (tgt := 43) hx hb d_B_lookAtAll_1 (by have q0 : ¬ x1.toInt = 0 := sw_ne c_1; have q1 : ¬ x1.toInt = 1 := sw_ne c_2; have q2 : ¬ x1.toInt = 2 := sw_ne c_3; omega) (by decide) ?_
  refine lv_sipush (v := (-1000)) hx hb d_B_lookAtAll_43 (by decide) ?_
  cases h
  exact W.iret hx hb hr (fun t ht hW => ⟨⟨_, (), rfl, rfl, by rw [ht]; exact hP, va_K.moved hW.alike hK, hD⟩, hS.F ht⟩) hS.2.2 d_B_lookAtAll_46 hlk
set_option maxRecDepth 20000 in
theorem c_B_lookAtAll (l : Launch) (D : va_G) (a : Nat → Nat) (k : Nat → ClassId) (sz : Nat) (x1 : Int32) (lab : Nat → Int32) (sg : Nat → Int32) (cc : Int32) (ci : Int32) (od : Nat → Int32) (sd : Nat → Int32) (go : Nat → Int32) (ta : Nat → Int32) (we : Int32) (oe : Nat → Int32) (fp : Nat → Int32) (ro : Nat → Int64) (sp : Nat → Int64) (qr : Nat) (qs : Nat) (r : Int32) (h : F_B_lookAtAll x1 sg cc ci = some r) : Met l y_B_lookAtAll (Cond.code y_B_lookAtAll b_B_lookAtAll 2 (some .int) :: lw_g) (rm_B_lookAtAll) (va_Pc [.ref (a 0), .int x1] (pcW D [(k 1, .int), (k 2, .int), (k 3, .int), (k 4, .int), (k 5, .boolean), (k 6, .int), (k 8, .int), (k 9, .int), (k 11, .long)] (wB a k lab sg cc ci od sd go ta we oe fp ro sp qr qs) sz)) (qc_B_lookAtAll D (va_A (wB a k lab sg cc ci od sd go ta we oe fp ro sp qr qs) sz) a k lab sg cc ci od sd go ta we oe fp ro sp qr qs r) 0 0 (va_A (wB a k lab sg cc ci od sd go ta we oe fp ro sp qr qs) sz) := by
  refine Met.ofW (cc := b_B_lookAtAll) (maxL := 2) (ret := (some .int)) (by decide) rfl ?_
  intro p e s m args below meth c s₁ B hml hv
  obtain ⟨rfl, hsz, hP, hK, hD0⟩ := hv
  have hts := atoms_spec (ws := Cond.code y_B_lookAtAll b_B_lookAtAll 2 (some .int) :: lw_g) B.pre
  subst hsz
  have hD := hD0.self (sz := s.heap.size)
  have hl := lv_entry ([.ref (a 0), .int x1]) (n := 2) (Nat.le_of_ble_eq_true rfl)
  rw [lg_entry_eq]
  generalize (lg_sl ([.ref (a 0), .int x1]) ++ List.replicate (2 - (lg_sl ([.ref (a 0), .int x1])).length) Slot.unset).toArray = ls at hl ⊢
  exact k_B_lookAtAll_0 ⟨B.exec, B.bytes, B.returns, hml, findClass_of_methodNamed B.named, fun w hw => hts w (List.mem_cons_of_mem _ hw), B.notSynchronized, fun q h => Or.inr h, hK⟩ _ _ _ _ _ h _ _ _ hP hD va_S.rf hl

def rm_B_goOverNone : Room := { frames := 1, cells := 0, slots := 0, locals := 23 }
def qc_B_goOverNone (D : va_G) (A : Nat → Prop) (a : Nat → Nat) (k : Nat → ClassId) (lab : Nat → Int32) (sg : Nat → Int32) (cc : Int32) (ci : Int32) (od : Nat → Int32) (ta : Nat → Int32) (we : Int32) (oe : Nat → Int32) (fp : Nat → Int32) (ro : Nat → Int64) (sp : Nat → Int64) (qr : Nat) (qs : Nat) (r : (Nat → Int32) × (Nat → Int32)) : Array Value → State → Outcome → State → Prop := va_Qv (fun (_ : Unit) => True) (poW D [(k 1, .int), (k 2, .int), (k 3, .int), (k 4, .int), (k 5, .boolean), (k 6, .int), (k 8, .int), (k 9, .int), (k 11, .long)] (wB a k lab sg cc ci od r.1 r.2 ta we oe fp ro sp qr qs) A) A
def J_B_goOverNone_10 (rec10 : Int32 → (Nat → Int32) → (Nat → Int32) → Option ((Nat → Int32) × (Nat → Int32))) (x1 : Int32) (sd : Nat → Int32) (go : Nat → Int32) : Option ((Nat → Int32) × (Nat → Int32)) :=
  (if (10 : Int32) ≤ x1 then some (sd, go) else (if inb x1 10 then rec10 (x1 + 1) sd (upd go x1.toNatClampNeg (vp_nar .boolean (0 : Int32))) else none))
def L_B_goOverNone_10 : Nat → Int32 → (Nat → Int32) → (Nat → Int32) → Option ((Nat → Int32) × (Nat → Int32))
  | 0 => fun _ _ _ => none
  | n + 1 => J_B_goOverNone_10 (L_B_goOverNone_10 n)
def J_B_goOverNone_0 (sd : Nat → Int32) (go : Nat → Int32) : Option ((Nat → Int32) × (Nat → Int32)) :=
  L_B_goOverNone_10 fu (0 : Int32) (fun _ => (0 : Int32)) go
def F_B_goOverNone (sd : Nat → Int32) (go : Nat → Int32) : Option ((Nat → Int32) × (Nat → Int32)) := J_B_goOverNone_0 sd go
def H_B_goOverNone_10 (p : Program) (l : Launch) (e : Env) (s : State) (m : MethodId) (args : Array Value) (below : List Frame) (meth : Method) (c : Code) (D : va_G) (A : Nat → Prop) (a : Nat → Nat) (k : Nat → ClassId) (lab : Nat → Int32) (sg : Nat → Int32) (cc : Int32) (ci : Int32) (od : Nat → Int32) (ta : Nat → Int32) (we : Int32) (oe : Nat → Int32) (fp : Nat → Int32) (ro : Nat → Int64) (sp : Nat → Int64) (qr : Nat) (qs : Nat) (f : Int32 → (Nat → Int32) → (Nat → Int32) → Option ((Nat → Int32) × (Nat → Int32))) : Prop := ∀ (x1 : Int32) (sd : Nat → Int32) (go : Nat → Int32) (r : (Nat → Int32) × (Nat → Int32)), f x1 sd go = some r → ∀ (H : Heap) (locs : List Loc) (ls : Array Slot), va_P D classes (wB a k lab sg cc ci od sd go ta we oe fp ro sp qr qs) H → va_D A (wB a k lab sg cc ci od sd go ta we oe fp ro sp qr qs) → va_S A s.heap H locs → lv_has ls 2 [(0, .ref (a 0)), (1, .int x1)] → W p l e (rm_B_goOverNone) s m args below meth c H locs 0 0 (MQ below (qc_B_goOverNone D A a k lab sg cc ci od ta we oe fp ro sp qr qs r) args s 0 0 A) (F0 m 10 ls [])
def H_B_goOverNone_0 (p : Program) (l : Launch) (e : Env) (s : State) (m : MethodId) (args : Array Value) (below : List Frame) (meth : Method) (c : Code) (D : va_G) (A : Nat → Prop) (a : Nat → Nat) (k : Nat → ClassId) (lab : Nat → Int32) (sg : Nat → Int32) (cc : Int32) (ci : Int32) (od : Nat → Int32) (ta : Nat → Int32) (we : Int32) (oe : Nat → Int32) (fp : Nat → Int32) (ro : Nat → Int64) (sp : Nat → Int64) (qr : Nat) (qs : Nat) (f : (Nat → Int32) → (Nat → Int32) → Option ((Nat → Int32) × (Nat → Int32))) : Prop := ∀ (sd : Nat → Int32) (go : Nat → Int32) (r : (Nat → Int32) × (Nat → Int32)), f sd go = some r → ∀ (H : Heap) (locs : List Loc) (ls : Array Slot), va_P D classes (wB a k lab sg cc ci od sd go ta we oe fp ro sp qr qs) H → va_D A (wB a k lab sg cc ci od sd go ta we oe fp ro sp qr qs) → va_S A s.heap H locs → lv_has ls 2 [(0, .ref (a 0))] → W p l e (rm_B_goOverNone) s m args below meth c H locs 0 0 (MQ below (qc_B_goOverNone D A a k lab sg cc ci od ta we oe fp ro sp qr qs r) args s 0 0 A) (F0 m 0 ls [])
set_option maxHeartbeats 4000000 in
set_option maxRecDepth 100000 in
theorem k_B_goOverNone_10 {p : Program} {l : Launch} {e : Env} {s : State} {m : MethodId} {args : Array Value} {below : List Frame} {meth : Method} {c : Code} {D : va_G} {A : Nat → Prop} {a : Nat → Nat} {k : Nat → ClassId} {lab : Nat → Int32} {sg : Nat → Int32} {cc : Int32} {ci : Int32} {od : Nat → Int32} {ta : Nat → Int32} {we : Int32} {oe : Nat → Int32} {fp : Nat → Int32} {ro : Nat → Int64} {sp : Nat → Int64} {qr : Nat} {qs : Nat} {rec10 : Int32 → (Nat → Int32) → (Nat → Int32) → Option ((Nat → Int32) × (Nat → Int32))} (C : cx D [(k 1, .int), (k 2, .int), (k 3, .int), (k 4, .int), (k 5, .boolean), (k 6, .int), (k 8, .int), (k 9, .int), (k 11, .long)] R_B b_B_goOverNone 2 none A p s m args meth c) (hrec10 : H_B_goOverNone_10 p l e s m args below meth c D A a k lab sg cc ci od ta we oe fp ro sp qr qs rec10) : H_B_goOverNone_10 p l e s m args below meth c D A a k lab sg cc ci od ta we oe fp ro sp qr qs (J_B_goOverNone_10 rec10) := by
  obtain ⟨hx, hb, hr, hml, hown, ht, hlk, hA, hK⟩ := id C
  intro x1 sd go r h H locs ls hP hD hS hl
  unfold J_B_goOverNone_10 at h
  refine lv_iload_n hx hb d_B_goOverNone_10 rfl (lv_at hl 1 rfl) ?_
  refine lv_bipush (v := 10) hx hb d_B_goOverNone_11 (by decide) ?_
  refine lv_icmp_ge (tgt := 29) hx hb d_B_goOverNone_13 (by decide) (fun c_1 => ?_) (fun c_1 => ?_)
  · have h := ite_T c_1 h
    cases h
    exact W.vret hx hb hr (fun t ht hW => ⟨⟨(), rfl, trivial, by rw [ht]; exact hP, va_K.moved hW.alike hK, hD⟩, hS.F ht⟩) hS.2.2 d_B_goOverNone_29 hlk
  · have h := ite_F c_1 h
    refine lv_aload_n hx hb d_B_goOverNone_16 rfl (lv_at hl 0 rfl) ?_
    refine va_get (D := D) (ci := 0) (v := .ref (a 5)) (C := R_B) (T := F_B) (N := 11) hx hb ht iC_B hown hK hP 0 rfl rfl 6 (by decide) (ht _ ix_59) (fun _ h9 => h9) rfl d_B_goOverNone_17 ?_
    refine lv_iload_n hx hb d_B_goOverNone_20 rfl (lv_at hl 1 rfl) ?_
    refine lv_iconst (v := 0) hx hb d_B_goOverNone_21 (by decide) ?_
    obtain ⟨g_2, h⟩ := gd_some h
    refine va_zast hx hb hK hP hD hS 5 4 rfl rfl (inb_in g_2) d_B_goOverNone_22 (fun H locs hP hD hS => ?_)
    have hP : va_P D classes (wB a k lab sg cc ci od sd (upd go x1.toNatClampNeg (vp_nar .boolean (0 : Int32))) ta we oe fp ro sp qr qs) H := hP
    have hD : va_D A (wB a k lab sg cc ci od sd (upd go x1.toNatClampNeg (vp_nar .boolean (0 : Int32))) ta we oe fp ro sp qr qs) := hD
    refine lv_iinc (v := x1 + 1) (lv' := [(1, .int (x1 + 1)), (0, .ref (a 0))]) hx hb d_B_goOverNone_23 hl (k := 1) rfl rfl (by decide) rfl (fun ls hl => ?_)
    refine lv_goto (tgt := 10) hx hb d_B_goOverNone_26 (by decide) ?_
    exact hrec10 _ _ _ _ h _ _ _ hP hD hS (lv_sub hl [1, 0] rfl)
theorem k_B_goOverNone_10_L {p : Program} {l : Launch} {e : Env} {s : State} {m : MethodId} {args : Array Value} {below : List Frame} {meth : Method} {c : Code} {D : va_G} {A : Nat → Prop} {a : Nat → Nat} {k : Nat → ClassId} {lab : Nat → Int32} {sg : Nat → Int32} {cc : Int32} {ci : Int32} {od : Nat → Int32} {ta : Nat → Int32} {we : Int32} {oe : Nat → Int32} {fp : Nat → Int32} {ro : Nat → Int64} {sp : Nat → Int64} {qr : Nat} {qs : Nat} (C : cx D [(k 1, .int), (k 2, .int), (k 3, .int), (k 4, .int), (k 5, .boolean), (k 6, .int), (k 8, .int), (k 9, .int), (k 11, .long)] R_B b_B_goOverNone 2 none A p s m args meth c) : ∀ n : Nat, H_B_goOverNone_10 p l e s m args below meth c D A a k lab sg cc ci od ta we oe fp ro sp qr qs (L_B_goOverNone_10 n)
  | 0 => fun _ _ _ _ h => nomatch h
  | n + 1 => k_B_goOverNone_10 C (k_B_goOverNone_10_L C n)
set_option maxHeartbeats 4000000 in
set_option maxRecDepth 100000 in
theorem k_B_goOverNone_0 {p : Program} {l : Launch} {e : Env} {s : State} {m : MethodId} {args : Array Value} {below : List Frame} {meth : Method} {c : Code} {D : va_G} {A : Nat → Prop} {a : Nat → Nat} {k : Nat → ClassId} {lab : Nat → Int32} {sg : Nat → Int32} {cc : Int32} {ci : Int32} {od : Nat → Int32} {ta : Nat → Int32} {we : Int32} {oe : Nat → Int32} {fp : Nat → Int32} {ro : Nat → Int64} {sp : Nat → Int64} {qr : Nat} {qs : Nat} (C : cx D [(k 1, .int), (k 2, .int), (k 3, .int), (k 4, .int), (k 5, .boolean), (k 6, .int), (k 8, .int), (k 9, .int), (k 11, .long)] R_B b_B_goOverNone 2 none A p s m args meth c) : H_B_goOverNone_0 p l e s m args below meth c D A a k lab sg cc ci od ta we oe fp ro sp qr qs (J_B_goOverNone_0) := by
  obtain ⟨hx, hb, hr, hml, hown, ht, hlk, hA, hK⟩ := id C
  intro sd go r h H locs ls hP hD hS hl
  unfold J_B_goOverNone_0 at h
  refine lv_aload_n hx hb d_B_goOverNone_0 rfl (lv_at hl 0 rfl) ?_
  refine va_get (D := D) (ci := 0) (v := .ref (a 4)) (C := R_B) (T := F_B) (N := 11) hx hb ht iC_B hown hK hP 0 rfl rfl 5 (by decide) (ht _ ix_41) (fun _ h9 => h9) rfl d_B_goOverNone_1 ?_
  refine lv_iconst (v := 0) hx hb d_B_goOverNone_4 (by decide) ?_
  refine go_Sv (As := [.ref (a 4), .int (0 : Int32)]) (rest := []) (wc := [((a 4), .inl (k 4, 100, .inl sd))]) (wr := [((a 0), .inr (0, [.ref (a 1), .ref (a 2), .int cc, .int ci, .ref (a 3), .ref (a 4), .ref (a 5), .ref (a 6), .ref (a 7), .ref (a 10), .int we])), ((a 1), .inl (k 1, 40, .inl lab)), ((a 2), .inl (k 2, 10, .inl sg)), ((a 3), .inl (k 3, 10, .inl od)), ((a 5), .inl (k 5, 10, .inl go)), ((a 6), .inl (k 6, 330, .inl ta)), ((a 7), .inr (1, [.ref (a 8), .ref (a 9)])), ((a 8), .inl (k 8, 40, .inl oe)), ((a 9), .inl (k 9, 100, .inl fp)), ((a 10), .inr (2, [.ref qr, .ref qs])), (qr, .inl (k 11, 133, .inr (.inl ro))), (qs, .inl (k 11, 133, .inr (.inl sp)))]) (w1 := [((a 4), .inl (k 4, 100, .inl (fun _ => (0 : Int32))))]) (w2 := (wB a k lab sg cc ci od (fun _ => (0 : Int32)) go ta we oe fp ro sp qr qs)) (tc := [(k 4, .int)]) hx hb hml hown ht (c_fillI l D (a 4) (k 4) 100 H.size sd (0 : Int32) (by decide)) g_B_134 ⟨rfl, rfl⟩ (n := 2) (by decide +kernel) ⟨(Nat.le_of_ble_eq_true rfl), (Nat.le_of_ble_eq_true rfl)⟩ hP hD hK hS hA ⟨Nat.zero_le _, Nat.zero_le _⟩ [4] [0, 1, 2, 3, 5, 6, 7, 8, 9, 10, 11, 12] [3] [0, 1, 2, 3, 12, 4, 5, 6, 7, 8, 9, 10, 11] rfl rfl rfl rfl (by decide) (by decide) (by decide) rfl (by decide) rfl rfl hl.1 (Nat.le_of_ble_eq_true rfl) d_B_goOverNone_5 (fun H locs hP hD hS => ?_)
  refine lv_iconst (v := 0) hx hb d_B_goOverNone_8 (by decide) ?_
  refine lv_istore_n (lv' := [(1, .int (0 : Int32)), (0, .ref (a 0))]) hx hb d_B_goOverNone_9 rfl hl (by decide) rfl (fun ls hl => ?_)
  exact (k_B_goOverNone_10_L C fu) _ _ _ _ h _ _ _ hP hD hS (lv_sub hl [1, 0] rfl)
set_option maxRecDepth 20000 in
theorem c_B_goOverNone (l : Launch) (D : va_G) (a : Nat → Nat) (k : Nat → ClassId) (sz : Nat) (lab : Nat → Int32) (sg : Nat → Int32) (cc : Int32) (ci : Int32) (od : Nat → Int32) (sd : Nat → Int32) (go : Nat → Int32) (ta : Nat → Int32) (we : Int32) (oe : Nat → Int32) (fp : Nat → Int32) (ro : Nat → Int64) (sp : Nat → Int64) (qr : Nat) (qs : Nat) (r : (Nat → Int32) × (Nat → Int32)) (h : F_B_goOverNone sd go = some r) : Met l y_B_goOverNone (Cond.code y_B_goOverNone b_B_goOverNone 2 none :: lw_g) (rm_B_goOverNone) (va_Pc [.ref (a 0)] (pcW D [(k 1, .int), (k 2, .int), (k 3, .int), (k 4, .int), (k 5, .boolean), (k 6, .int), (k 8, .int), (k 9, .int), (k 11, .long)] (wB a k lab sg cc ci od sd go ta we oe fp ro sp qr qs) sz)) (qc_B_goOverNone D (va_A (wB a k lab sg cc ci od sd go ta we oe fp ro sp qr qs) sz) a k lab sg cc ci od ta we oe fp ro sp qr qs r) 0 0 (va_A (wB a k lab sg cc ci od sd go ta we oe fp ro sp qr qs) sz) := by
  refine Met.ofW (cc := b_B_goOverNone) (maxL := 2) (ret := none) (by decide) rfl ?_
  intro p e s m args below meth c s₁ B hml hv
  obtain ⟨rfl, hsz, hP, hK, hD0⟩ := hv
  have hts := atoms_spec (ws := Cond.code y_B_goOverNone b_B_goOverNone 2 none :: lw_g) B.pre
  subst hsz
  have hD := hD0.self (sz := s.heap.size)
  have hl := lv_entry ([.ref (a 0)]) (n := 2) (Nat.le_of_ble_eq_true rfl)
  rw [lg_entry_eq]
  generalize (lg_sl ([.ref (a 0)]) ++ List.replicate (2 - (lg_sl ([.ref (a 0)])).length) Slot.unset).toArray = ls at hl ⊢
  exact k_B_goOverNone_0 ⟨B.exec, B.bytes, B.returns, hml, findClass_of_methodNamed B.named, fun w hw => hts w (List.mem_cons_of_mem _ hw), B.notSynchronized, fun q h => Or.inr h, hK⟩ _ _ _ h _ _ _ hP hD va_S.rf hl

def rm_B_placesJoined : Room := { frames := 0, cells := 0, slots := 0, locals := 0 }
def qc_B_placesJoined (D : va_G) (A : Nat → Prop) (a : Nat → Nat) (k : Nat → ClassId) (lab : Nat → Int32) (sg : Nat → Int32) (cc : Int32) (ci : Int32) (od : Nat → Int32) (sd : Nat → Int32) (go : Nat → Int32) (ta : Nat → Int32) (we : Int32) (oe : Nat → Int32) (fp : Nat → Int32) (ro : Nat → Int64) (sp : Nat → Int64) (qr : Nat) (qs : Nat) (r : Int32) : Array Value → State → Outcome → State → Prop := va_Qi (fun (r1 : Int32) (_ : Unit) => r1 = r) (poW D [(k 1, .int), (k 2, .int), (k 3, .int), (k 4, .int), (k 5, .boolean), (k 6, .int), (k 8, .int), (k 9, .int), (k 11, .long)] (wB a k lab sg cc ci od sd go ta we oe fp ro sp qr qs) A) A
def J_B_placesJoined_6 (rec6 : Int32 → Int32 → Int32 → (Nat → Int32) → (Nat → Int32) → Option (Int32)) (x1 : Int32) (x2 : Int32) (x3 : Int32) (lab : Nat → Int32) (sd : Nat → Int32) : Option (Int32) :=
  (if ((4 : Int32) * (x1 + (1 : Int32))) ≤ x3 then some (x2) else (if inb x3 40 then (if inb (lab x3.toNatClampNeg) 100 then (if (sd (lab x3.toNatClampNeg).toNatClampNeg) ≤ 0 then rec6 x1 x2 (x3 + 1) lab sd else rec6 x1 (x2 + 1) (x3 + 1) lab sd) else none) else none))
def L_B_placesJoined_6 : Nat → Int32 → Int32 → Int32 → (Nat → Int32) → (Nat → Int32) → Option (Int32)
  | 0 => fun _ _ _ _ _ => none
  | n + 1 => J_B_placesJoined_6 (L_B_placesJoined_6 n)
def J_B_placesJoined_0 (x1 : Int32) (lab : Nat → Int32) (sd : Nat → Int32) : Option (Int32) :=
  L_B_placesJoined_6 fu x1 (0 : Int32) ((4 : Int32) * x1) lab sd
def F_B_placesJoined (x1 : Int32) (lab : Nat → Int32) (sd : Nat → Int32) : Option (Int32) := J_B_placesJoined_0 x1 lab sd
def H_B_placesJoined_6 (p : Program) (l : Launch) (e : Env) (s : State) (m : MethodId) (args : Array Value) (below : List Frame) (meth : Method) (c : Code) (D : va_G) (A : Nat → Prop) (a : Nat → Nat) (k : Nat → ClassId) (sg : Nat → Int32) (cc : Int32) (ci : Int32) (od : Nat → Int32) (go : Nat → Int32) (ta : Nat → Int32) (we : Int32) (oe : Nat → Int32) (fp : Nat → Int32) (ro : Nat → Int64) (sp : Nat → Int64) (qr : Nat) (qs : Nat) (f : Int32 → Int32 → Int32 → (Nat → Int32) → (Nat → Int32) → Option (Int32)) : Prop := ∀ (x1 : Int32) (x2 : Int32) (x3 : Int32) (lab : Nat → Int32) (sd : Nat → Int32) (r : Int32), f x1 x2 x3 lab sd = some r → ∀ (H : Heap) (locs : List Loc) (ls : Array Slot), va_P D classes (wB a k lab sg cc ci od sd go ta we oe fp ro sp qr qs) H → va_D A (wB a k lab sg cc ci od sd go ta we oe fp ro sp qr qs) → va_S A s.heap H locs → lv_has ls 4 [(0, .ref (a 0)), (1, .int x1), (2, .int x2), (3, .int x3)] → W p l e (rm_B_placesJoined) s m args below meth c H locs 0 0 (MQ below (qc_B_placesJoined D A a k lab sg cc ci od sd go ta we oe fp ro sp qr qs r) args s 0 0 A) (F0 m 6 ls [])
def H_B_placesJoined_0 (p : Program) (l : Launch) (e : Env) (s : State) (m : MethodId) (args : Array Value) (below : List Frame) (meth : Method) (c : Code) (D : va_G) (A : Nat → Prop) (a : Nat → Nat) (k : Nat → ClassId) (sg : Nat → Int32) (cc : Int32) (ci : Int32) (od : Nat → Int32) (go : Nat → Int32) (ta : Nat → Int32) (we : Int32) (oe : Nat → Int32) (fp : Nat → Int32) (ro : Nat → Int64) (sp : Nat → Int64) (qr : Nat) (qs : Nat) (f : Int32 → (Nat → Int32) → (Nat → Int32) → Option (Int32)) : Prop := ∀ (x1 : Int32) (lab : Nat → Int32) (sd : Nat → Int32) (r : Int32), f x1 lab sd = some r → ∀ (H : Heap) (locs : List Loc) (ls : Array Slot), va_P D classes (wB a k lab sg cc ci od sd go ta we oe fp ro sp qr qs) H → va_D A (wB a k lab sg cc ci od sd go ta we oe fp ro sp qr qs) → va_S A s.heap H locs → lv_has ls 4 [(0, .ref (a 0)), (1, .int x1)] → W p l e (rm_B_placesJoined) s m args below meth c H locs 0 0 (MQ below (qc_B_placesJoined D A a k lab sg cc ci od sd go ta we oe fp ro sp qr qs r) args s 0 0 A) (F0 m 0 ls [])
set_option maxHeartbeats 4000000 in
set_option maxRecDepth 100000 in
theorem k_B_placesJoined_6 {p : Program} {l : Launch} {e : Env} {s : State} {m : MethodId} {args : Array Value} {below : List Frame} {meth : Method} {c : Code} {D : va_G} {A : Nat → Prop} {a : Nat → Nat} {k : Nat → ClassId} {sg : Nat → Int32} {cc : Int32} {ci : Int32} {od : Nat → Int32} {go : Nat → Int32} {ta : Nat → Int32} {we : Int32} {oe : Nat → Int32} {fp : Nat → Int32} {ro : Nat → Int64} {sp : Nat → Int64} {qr : Nat} {qs : Nat} {rec6 : Int32 → Int32 → Int32 → (Nat → Int32) → (Nat → Int32) → Option (Int32)} (C : cx D [(k 1, .int), (k 2, .int), (k 3, .int), (k 4, .int), (k 5, .boolean), (k 6, .int), (k 8, .int), (k 9, .int), (k 11, .long)] R_B b_B_placesJoined 4 (some .int) A p s m args meth c) (hrec6 : H_B_placesJoined_6 p l e s m args below meth c D A a k sg cc ci od go ta we oe fp ro sp qr qs rec6) : H_B_placesJoined_6 p l e s m args below meth c D A a k sg cc ci od go ta we oe fp ro sp qr qs (J_B_placesJoined_6 rec6) := by
  obtain ⟨hx, hb, hr, hml, hown, ht, hlk, hA, hK⟩ := id C
  intro x1 x2 x3 lab sd r h H locs ls hP hD hS hl
  unfold J_B_placesJoined_6 at h
  refine lv_iload_n hx hb d_B_placesJoined_6 rfl (lv_at hl 3 rfl) ?_
  refine lv_iconst (v := 4) hx hb d_B_placesJoined_7 (by decide) ?_
  refine lv_iload_n hx hb d_B_placesJoined_8 rfl (lv_at hl 1 rfl) ?_
  refine lv_iconst (v := 1) hx hb d_B_placesJoined_9 (by decide) ?_
  refine lv_iadd hx hb d_B_placesJoined_10 ?_
  refine lv_imul hx hb d_B_placesJoined_11 ?_
  refine lv_icmp_ge (tgt := 38) hx hb d_B_placesJoined_12 (by decide) (fun c_1 => ?_) (fun c_1 => ?_)
  · have h := ite_T c_1 h
    refine lv_iload_n hx hb d_B_placesJoined_38 rfl (lv_at hl 2 rfl) ?_
    cases h
    exact W.iret hx hb hr (fun t ht hW => ⟨⟨_, (), rfl, rfl, by rw [ht]; exact hP, va_K.moved hW.alike hK, hD⟩, hS.F ht⟩) hS.2.2 d_B_placesJoined_39 hlk
  · have h := ite_F c_1 h
    refine lv_aload_n hx hb d_B_placesJoined_15 rfl (lv_at hl 0 rfl) ?_
    refine va_get (D := D) (ci := 0) (v := .ref (a 4)) (C := R_B) (T := F_B) (N := 11) hx hb ht iC_B hown hK hP 0 rfl rfl 5 (by decide) (ht _ ix_41) (fun _ h9 => h9) rfl d_B_placesJoined_16 ?_
    refine lv_aload_n hx hb d_B_placesJoined_19 rfl (lv_at hl 0 rfl) ?_
    refine va_get (D := D) (ci := 0) (v := .ref (a 1)) (C := R_B) (T := F_B) (N := 11) hx hb ht iC_B hown hK hP 0 rfl rfl 0 (by decide) (ht _ ix_43) (fun _ h9 => h9) rfl d_B_placesJoined_20 ?_
    refine lv_iload_n hx hb d_B_placesJoined_23 rfl (lv_at hl 3 rfl) ?_
    obtain ⟨g_2, h⟩ := gd_some h
    refine va_iald hx hb hK hP 1 0 rfl rfl (inb_in g_2) d_B_placesJoined_24 ?_
    obtain ⟨g_3, h⟩ := gd_some h
    refine va_iald hx hb hK hP 4 3 rfl rfl (inb_in g_3) d_B_placesJoined_25 ?_
    refine lv_if_le (tgt := 32) hx hb d_B_placesJoined_26 (by decide) (fun c_4 => ?_) (fun c_4 => ?_)
    · have h := ite_T c_4 h
      refine lv_iinc (v := x3 + 1) (lv' := [(3, .int (x3 + 1)), (0, .ref (a 0)), (1, .int x1), (2, .int x2)]) hx hb d_B_placesJoined_32 hl (k := 3) rfl rfl (by decide) rfl (fun ls hl => ?_)
      refine lv_goto (tgt := 6) hx hb d_B_placesJoined_35 (by decide) ?_
      exact hrec6 _ _ _ _ _ _ h _ _ _ hP hD hS (lv_sub hl [1, 2, 3, 0] rfl)
    · have h := ite_F c_4 h
      refine lv_iinc (v := x2 + 1) (lv' := [(2, .int (x2 + 1)), (0, .ref (a 0)), (1, .int x1), (3, .int x3)]) hx hb d_B_placesJoined_29 hl (k := 2) rfl rfl (by decide) rfl (fun ls hl => ?_)
      refine lv_iinc (v := x3 + 1) (lv' := [(3, .int (x3 + 1)), (2, .int (x2 + 1)), (0, .ref (a 0)), (1, .int x1)]) hx hb d_B_placesJoined_32 hl (k := 3) rfl rfl (by decide) rfl (fun ls hl => ?_)
      refine lv_goto (tgt := 6) hx hb d_B_placesJoined_35 (by decide) ?_
      exact hrec6 _ _ _ _ _ _ h _ _ _ hP hD hS (lv_sub hl [2, 3, 1, 0] rfl)
theorem k_B_placesJoined_6_L {p : Program} {l : Launch} {e : Env} {s : State} {m : MethodId} {args : Array Value} {below : List Frame} {meth : Method} {c : Code} {D : va_G} {A : Nat → Prop} {a : Nat → Nat} {k : Nat → ClassId} {sg : Nat → Int32} {cc : Int32} {ci : Int32} {od : Nat → Int32} {go : Nat → Int32} {ta : Nat → Int32} {we : Int32} {oe : Nat → Int32} {fp : Nat → Int32} {ro : Nat → Int64} {sp : Nat → Int64} {qr : Nat} {qs : Nat} (C : cx D [(k 1, .int), (k 2, .int), (k 3, .int), (k 4, .int), (k 5, .boolean), (k 6, .int), (k 8, .int), (k 9, .int), (k 11, .long)] R_B b_B_placesJoined 4 (some .int) A p s m args meth c) : ∀ n : Nat, H_B_placesJoined_6 p l e s m args below meth c D A a k sg cc ci od go ta we oe fp ro sp qr qs (L_B_placesJoined_6 n)
  | 0 => fun _ _ _ _ _ _ h => nomatch h
  | n + 1 => k_B_placesJoined_6 C (k_B_placesJoined_6_L C n)
set_option maxHeartbeats 4000000 in
set_option maxRecDepth 100000 in
theorem k_B_placesJoined_0 {p : Program} {l : Launch} {e : Env} {s : State} {m : MethodId} {args : Array Value} {below : List Frame} {meth : Method} {c : Code} {D : va_G} {A : Nat → Prop} {a : Nat → Nat} {k : Nat → ClassId} {sg : Nat → Int32} {cc : Int32} {ci : Int32} {od : Nat → Int32} {go : Nat → Int32} {ta : Nat → Int32} {we : Int32} {oe : Nat → Int32} {fp : Nat → Int32} {ro : Nat → Int64} {sp : Nat → Int64} {qr : Nat} {qs : Nat} (C : cx D [(k 1, .int), (k 2, .int), (k 3, .int), (k 4, .int), (k 5, .boolean), (k 6, .int), (k 8, .int), (k 9, .int), (k 11, .long)] R_B b_B_placesJoined 4 (some .int) A p s m args meth c) : H_B_placesJoined_0 p l e s m args below meth c D A a k sg cc ci od go ta we oe fp ro sp qr qs (J_B_placesJoined_0) := by
  obtain ⟨hx, hb, hr, hml, hown, ht, hlk, hA, hK⟩ := id C
  intro x1 lab sd r h H locs ls hP hD hS hl
  unfold J_B_placesJoined_0 at h
  refine lv_iconst (v := 0) hx hb d_B_placesJoined_0 (by decide) ?_
  refine lv_istore_n (lv' := [(2, .int (0 : Int32)), (0, .ref (a 0)), (1, .int x1)]) hx hb d_B_placesJoined_1 rfl hl (by decide) rfl (fun ls hl => ?_)
  refine lv_iconst (v := 4) hx hb d_B_placesJoined_2 (by decide) ?_
  refine lv_iload_n hx hb d_B_placesJoined_3 rfl (lv_at hl 2 rfl) ?_
  refine lv_imul hx hb d_B_placesJoined_4 ?_
  refine lv_istore_n (lv' := [(3, .int ((4 : Int32) * x1)), (2, .int (0 : Int32)), (0, .ref (a 0)), (1, .int x1)]) hx hb d_B_placesJoined_5 rfl hl (by decide) rfl (fun ls hl => ?_)
  exact (k_B_placesJoined_6_L C fu) _ _ _ _ _ _ h _ _ _ hP hD hS (lv_sub hl [2, 3, 1, 0] rfl)
set_option maxRecDepth 20000 in
theorem c_B_placesJoined (l : Launch) (D : va_G) (a : Nat → Nat) (k : Nat → ClassId) (sz : Nat) (x1 : Int32) (lab : Nat → Int32) (sg : Nat → Int32) (cc : Int32) (ci : Int32) (od : Nat → Int32) (sd : Nat → Int32) (go : Nat → Int32) (ta : Nat → Int32) (we : Int32) (oe : Nat → Int32) (fp : Nat → Int32) (ro : Nat → Int64) (sp : Nat → Int64) (qr : Nat) (qs : Nat) (r : Int32) (h : F_B_placesJoined x1 lab sd = some r) : Met l y_B_placesJoined (Cond.code y_B_placesJoined b_B_placesJoined 4 (some .int) :: lw_g) (rm_B_placesJoined) (va_Pc [.ref (a 0), .int x1] (pcW D [(k 1, .int), (k 2, .int), (k 3, .int), (k 4, .int), (k 5, .boolean), (k 6, .int), (k 8, .int), (k 9, .int), (k 11, .long)] (wB a k lab sg cc ci od sd go ta we oe fp ro sp qr qs) sz)) (qc_B_placesJoined D (va_A (wB a k lab sg cc ci od sd go ta we oe fp ro sp qr qs) sz) a k lab sg cc ci od sd go ta we oe fp ro sp qr qs r) 0 0 (va_A (wB a k lab sg cc ci od sd go ta we oe fp ro sp qr qs) sz) := by
  refine Met.ofW (cc := b_B_placesJoined) (maxL := 4) (ret := (some .int)) (by decide) rfl ?_
  intro p e s m args below meth c s₁ B hml hv
  obtain ⟨rfl, hsz, hP, hK, hD0⟩ := hv
  have hts := atoms_spec (ws := Cond.code y_B_placesJoined b_B_placesJoined 4 (some .int) :: lw_g) B.pre
  subst hsz
  have hD := hD0.self (sz := s.heap.size)
  have hl := lv_entry ([.ref (a 0), .int x1]) (n := 4) (Nat.le_of_ble_eq_true rfl)
  rw [lg_entry_eq]
  generalize (lg_sl ([.ref (a 0), .int x1]) ++ List.replicate (4 - (lg_sl ([.ref (a 0), .int x1])).length) Slot.unset).toArray = ls at hl ⊢
  exact k_B_placesJoined_0 ⟨B.exec, B.bytes, B.returns, hml, findClass_of_methodNamed B.named, fun w hw => hts w (List.mem_cons_of_mem _ hw), B.notSynchronized, fun q h => Or.inr h, hK⟩ _ _ _ _ h _ _ _ hP hD va_S.rf hl

def rm_B_mostJoined : Room := { frames := 1, cells := 0, slots := 0, locals := 23 }
def qc_B_mostJoined (D : va_G) (A : Nat → Prop) (a : Nat → Nat) (k : Nat → ClassId) (lab : Nat → Int32) (sg : Nat → Int32) (cc : Int32) (ci : Int32) (od : Nat → Int32) (sd : Nat → Int32) (go : Nat → Int32) (ta : Nat → Int32) (we : Int32) (oe : Nat → Int32) (fp : Nat → Int32) (ro : Nat → Int64) (sp : Nat → Int64) (qr : Nat) (qs : Nat) (r : Int32) : Array Value → State → Outcome → State → Prop := va_Qi (fun (r1 : Int32) (_ : Unit) => r1 = r) (poW D [(k 1, .int), (k 2, .int), (k 3, .int), (k 4, .int), (k 5, .boolean), (k 6, .int), (k 8, .int), (k 9, .int), (k 11, .long)] (wB a k lab sg cc ci od sd go ta we oe fp ro sp qr qs) A) A
def J_B_mostJoined_32 (rec6 : Int32 → Int32 → Int32 → (Nat → Int32) → Int32 → (Nat → Int32) → (Nat → Int32) → Option (Int32)) (x1 : Int32) (x2 : Int32) (x3 : Int32) (y0 : Int32) (lab : Nat → Int32) (cc : Int32) (sd : Nat → Int32) (go : Nat → Int32) : Option (Int32) :=
  (if y0 ≤ x2 then rec6 x1 x2 (x3 + 1) lab cc sd go else rec6 x3 y0 (x3 + 1) lab cc sd go)
def J_B_mostJoined_6 (rec6 : Int32 → Int32 → Int32 → (Nat → Int32) → Int32 → (Nat → Int32) → (Nat → Int32) → Option (Int32)) (x1 : Int32) (x2 : Int32) (x3 : Int32) (lab : Nat → Int32) (cc : Int32) (sd : Nat → Int32) (go : Nat → Int32) : Option (Int32) :=
  (if cc ≤ x3 then some (x1) else (if inb x3 10 then (if (go x3.toNatClampNeg) = 0 then (Option.bind (F_B_placesJoined x3 lab sd) (fun v_4 => J_B_mostJoined_32 rec6 x1 x2 x3 v_4 lab cc sd go)) else J_B_mostJoined_32 rec6 x1 x2 x3 (-1 : Int32) lab cc sd go) else none))
def L_B_mostJoined_6 : Nat → Int32 → Int32 → Int32 → (Nat → Int32) → Int32 → (Nat → Int32) → (Nat → Int32) → Option (Int32)
  | 0 => fun _ _ _ _ _ _ _ => none
  | n + 1 => J_B_mostJoined_6 (L_B_mostJoined_6 n)
def J_B_mostJoined_0 (lab : Nat → Int32) (cc : Int32) (sd : Nat → Int32) (go : Nat → Int32) : Option (Int32) :=
  L_B_mostJoined_6 fu (0 : Int32) (-1 : Int32) (0 : Int32) lab cc sd go
def F_B_mostJoined (lab : Nat → Int32) (cc : Int32) (sd : Nat → Int32) (go : Nat → Int32) : Option (Int32) := J_B_mostJoined_0 lab cc sd go
def H_B_mostJoined_32 (p : Program) (l : Launch) (e : Env) (s : State) (m : MethodId) (args : Array Value) (below : List Frame) (meth : Method) (c : Code) (D : va_G) (A : Nat → Prop) (a : Nat → Nat) (k : Nat → ClassId) (sg : Nat → Int32) (ci : Int32) (od : Nat → Int32) (ta : Nat → Int32) (we : Int32) (oe : Nat → Int32) (fp : Nat → Int32) (ro : Nat → Int64) (sp : Nat → Int64) (qr : Nat) (qs : Nat) (f : Int32 → Int32 → Int32 → Int32 → (Nat → Int32) → Int32 → (Nat → Int32) → (Nat → Int32) → Option (Int32)) : Prop := ∀ (x1 : Int32) (x2 : Int32) (x3 : Int32) (y0 : Int32) (lab : Nat → Int32) (cc : Int32) (sd : Nat → Int32) (go : Nat → Int32) (r : Int32), f x1 x2 x3 y0 lab cc sd go = some r → ∀ (H : Heap) (locs : List Loc) (ls : Array Slot), va_P D classes (wB a k lab sg cc ci od sd go ta we oe fp ro sp qr qs) H → va_D A (wB a k lab sg cc ci od sd go ta we oe fp ro sp qr qs) → va_S A s.heap H locs → lv_has ls 5 [(0, .ref (a 0)), (1, .int x1), (2, .int x2), (3, .int x3)] → W p l e (rm_B_mostJoined) s m args below meth c H locs 0 0 (MQ below (qc_B_mostJoined D A a k lab sg cc ci od sd go ta we oe fp ro sp qr qs r) args s 0 0 A) (F0 m 32 ls [.int y0])
def H_B_mostJoined_6 (p : Program) (l : Launch) (e : Env) (s : State) (m : MethodId) (args : Array Value) (below : List Frame) (meth : Method) (c : Code) (D : va_G) (A : Nat → Prop) (a : Nat → Nat) (k : Nat → ClassId) (sg : Nat → Int32) (ci : Int32) (od : Nat → Int32) (ta : Nat → Int32) (we : Int32) (oe : Nat → Int32) (fp : Nat → Int32) (ro : Nat → Int64) (sp : Nat → Int64) (qr : Nat) (qs : Nat) (f : Int32 → Int32 → Int32 → (Nat → Int32) → Int32 → (Nat → Int32) → (Nat → Int32) → Option (Int32)) : Prop := ∀ (x1 : Int32) (x2 : Int32) (x3 : Int32) (lab : Nat → Int32) (cc : Int32) (sd : Nat → Int32) (go : Nat → Int32) (r : Int32), f x1 x2 x3 lab cc sd go = some r → ∀ (H : Heap) (locs : List Loc) (ls : Array Slot), va_P D classes (wB a k lab sg cc ci od sd go ta we oe fp ro sp qr qs) H → va_D A (wB a k lab sg cc ci od sd go ta we oe fp ro sp qr qs) → va_S A s.heap H locs → lv_has ls 5 [(0, .ref (a 0)), (1, .int x1), (2, .int x2), (3, .int x3)] → W p l e (rm_B_mostJoined) s m args below meth c H locs 0 0 (MQ below (qc_B_mostJoined D A a k lab sg cc ci od sd go ta we oe fp ro sp qr qs r) args s 0 0 A) (F0 m 6 ls [])
def H_B_mostJoined_0 (p : Program) (l : Launch) (e : Env) (s : State) (m : MethodId) (args : Array Value) (below : List Frame) (meth : Method) (c : Code) (D : va_G) (A : Nat → Prop) (a : Nat → Nat) (k : Nat → ClassId) (sg : Nat → Int32) (ci : Int32) (od : Nat → Int32) (ta : Nat → Int32) (we : Int32) (oe : Nat → Int32) (fp : Nat → Int32) (ro : Nat → Int64) (sp : Nat → Int64) (qr : Nat) (qs : Nat) (f : (Nat → Int32) → Int32 → (Nat → Int32) → (Nat → Int32) → Option (Int32)) : Prop := ∀ (lab : Nat → Int32) (cc : Int32) (sd : Nat → Int32) (go : Nat → Int32) (r : Int32), f lab cc sd go = some r → ∀ (H : Heap) (locs : List Loc) (ls : Array Slot), va_P D classes (wB a k lab sg cc ci od sd go ta we oe fp ro sp qr qs) H → va_D A (wB a k lab sg cc ci od sd go ta we oe fp ro sp qr qs) → va_S A s.heap H locs → lv_has ls 5 [(0, .ref (a 0))] → W p l e (rm_B_mostJoined) s m args below meth c H locs 0 0 (MQ below (qc_B_mostJoined D A a k lab sg cc ci od sd go ta we oe fp ro sp qr qs r) args s 0 0 A) (F0 m 0 ls [])
set_option maxHeartbeats 4000000 in
set_option maxRecDepth 100000 in
theorem k_B_mostJoined_32 {p : Program} {l : Launch} {e : Env} {s : State} {m : MethodId} {args : Array Value} {below : List Frame} {meth : Method} {c : Code} {D : va_G} {A : Nat → Prop} {a : Nat → Nat} {k : Nat → ClassId} {sg : Nat → Int32} {ci : Int32} {od : Nat → Int32} {ta : Nat → Int32} {we : Int32} {oe : Nat → Int32} {fp : Nat → Int32} {ro : Nat → Int64} {sp : Nat → Int64} {qr : Nat} {qs : Nat} {rec6 : Int32 → Int32 → Int32 → (Nat → Int32) → Int32 → (Nat → Int32) → (Nat → Int32) → Option (Int32)} (C : cx D [(k 1, .int), (k 2, .int), (k 3, .int), (k 4, .int), (k 5, .boolean), (k 6, .int), (k 8, .int), (k 9, .int), (k 11, .long)] R_B b_B_mostJoined 5 (some .int) A p s m args meth c) (hrec6 : H_B_mostJoined_6 p l e s m args below meth c D A a k sg ci od ta we oe fp ro sp qr qs rec6) : H_B_mostJoined_32 p l e s m args below meth c D A a k sg ci od ta we oe fp ro sp qr qs (J_B_mostJoined_32 rec6) := by
  obtain ⟨hx, hb, hr, hml, hown, ht, hlk, hA, hK⟩ := id C
  intro x1 x2 x3 y0 lab cc sd go r h H locs ls hP hD hS hl
  unfold J_B_mostJoined_32 at h
  refine lv_istore (lv' := [(4, .int y0), (0, .ref (a 0)), (1, .int x1), (2, .int x2), (3, .int x3)]) hx hb d_B_mostJoined_32 hl (by decide) rfl (fun ls hl => ?_)
  refine lv_iload hx hb d_B_mostJoined_34 (lv_at hl 0 rfl) ?_
  refine lv_iload_n hx hb d_B_mostJoined_36 rfl (lv_at hl 3 rfl) ?_
  refine lv_icmp_le (tgt := 45) hx hb d_B_mostJoined_37 (by decide) (fun c_1 => ?_) (fun c_1 => ?_)
  · have h := ite_T c_1 h
    refine lv_iinc (v := x3 + 1) (lv' := [(3, .int (x3 + 1)), (4, .int y0), (0, .ref (a 0)), (1, .int x1), (2, .int x2)]) hx hb d_B_mostJoined_45 hl (k := 4) rfl rfl (by decide) rfl (fun ls hl => ?_)
    refine lv_goto (tgt := 6) hx hb d_B_mostJoined_48 (by decide) ?_
    exact hrec6 _ _ _ _ _ _ _ _ h _ _ _ hP hD hS (lv_sub hl [2, 3, 4, 0] rfl)
  · have h := ite_F c_1 h
    refine lv_iload_n hx hb d_B_mostJoined_40 rfl (lv_at hl 4 rfl) ?_
    refine lv_istore_n (lv' := [(1, .int x3), (4, .int y0), (0, .ref (a 0)), (2, .int x2), (3, .int x3)]) hx hb d_B_mostJoined_41 rfl hl (by decide) rfl (fun ls hl => ?_)
    refine lv_iload hx hb d_B_mostJoined_42 (lv_at hl 1 rfl) ?_
    refine lv_istore_n (lv' := [(2, .int y0), (1, .int x3), (4, .int y0), (0, .ref (a 0)), (3, .int x3)]) hx hb d_B_mostJoined_44 rfl hl (by decide) rfl (fun ls hl => ?_)
    refine lv_iinc (v := x3 + 1) (lv' := [(3, .int (x3 + 1)), (2, .int y0), (1, .int x3), (4, .int y0), (0, .ref (a 0))]) hx hb d_B_mostJoined_45 hl (k := 4) rfl rfl (by decide) rfl (fun ls hl => ?_)
    refine lv_goto (tgt := 6) hx hb d_B_mostJoined_48 (by decide) ?_
    exact hrec6 _ _ _ _ _ _ _ _ h _ _ _ hP hD hS (lv_sub hl [4, 2, 1, 0] rfl)
set_option maxHeartbeats 4000000 in
set_option maxRecDepth 100000 in
theorem k_B_mostJoined_6 {p : Program} {l : Launch} {e : Env} {s : State} {m : MethodId} {args : Array Value} {below : List Frame} {meth : Method} {c : Code} {D : va_G} {A : Nat → Prop} {a : Nat → Nat} {k : Nat → ClassId} {sg : Nat → Int32} {ci : Int32} {od : Nat → Int32} {ta : Nat → Int32} {we : Int32} {oe : Nat → Int32} {fp : Nat → Int32} {ro : Nat → Int64} {sp : Nat → Int64} {qr : Nat} {qs : Nat} {rec6 : Int32 → Int32 → Int32 → (Nat → Int32) → Int32 → (Nat → Int32) → (Nat → Int32) → Option (Int32)} (C : cx D [(k 1, .int), (k 2, .int), (k 3, .int), (k 4, .int), (k 5, .boolean), (k 6, .int), (k 8, .int), (k 9, .int), (k 11, .long)] R_B b_B_mostJoined 5 (some .int) A p s m args meth c) (hrec6 : H_B_mostJoined_6 p l e s m args below meth c D A a k sg ci od ta we oe fp ro sp qr qs rec6) : H_B_mostJoined_6 p l e s m args below meth c D A a k sg ci od ta we oe fp ro sp qr qs (J_B_mostJoined_6 rec6) := by
  obtain ⟨hx, hb, hr, hml, hown, ht, hlk, hA, hK⟩ := id C
  intro x1 x2 x3 lab cc sd go r h H locs ls hP hD hS hl
  unfold J_B_mostJoined_6 at h
  refine lv_iload_n hx hb d_B_mostJoined_6 rfl (lv_at hl 3 rfl) ?_
  refine lv_aload_n hx hb d_B_mostJoined_7 rfl (lv_at hl 0 rfl) ?_
  refine va_get (D := D) (ci := 0) (v := .int cc) (C := R_B) (T := F_B) (N := 11) hx hb ht iC_B hown hK hP 0 rfl rfl 2 (by decide) (ht _ ix_38) (fun _ h9 => h9) rfl d_B_mostJoined_8 ?_
  refine lv_icmp_ge (tgt := 51) hx hb d_B_mostJoined_11 (by decide) (fun c_1 => ?_) (fun c_1 => ?_)
  · have h := ite_T c_1 h
    refine lv_iload_n hx hb d_B_mostJoined_51 rfl (lv_at hl 1 rfl) ?_
    cases h
    exact W.iret hx hb hr (fun t ht hW => ⟨⟨_, (), rfl, rfl, by rw [ht]; exact hP, va_K.moved hW.alike hK, hD⟩, hS.F ht⟩) hS.2.2 d_B_mostJoined_52 hlk
  · have h := ite_F c_1 h
    refine lv_aload_n hx hb d_B_mostJoined_14 rfl (lv_at hl 0 rfl) ?_
    refine va_get (D := D) (ci := 0) (v := .ref (a 5)) (C := R_B) (T := F_B) (N := 11) hx hb ht iC_B hown hK hP 0 rfl rfl 6 (by decide) (ht _ ix_59) (fun _ h9 => h9) rfl d_B_mostJoined_15 ?_
    refine lv_iload_n hx hb d_B_mostJoined_18 rfl (lv_at hl 3 rfl) ?_
    obtain ⟨g_2, h⟩ := gd_some h
    refine va_zald hx hb hK hP 5 4 rfl rfl (inb_in g_2) d_B_mostJoined_19 ?_
    refine lv_if_eq (tgt := 27) hx hb d_B_mostJoined_20 (by decide) (fun c_3 => ?_) (fun c_3 => ?_)
    · have h := ite_T c_3 h
      refine lv_aload_n hx hb d_B_mostJoined_27 rfl (lv_at hl 0 rfl) ?_
      refine lv_iload_n hx hb d_B_mostJoined_28 rfl (lv_at hl 3 rfl) ?_
      obtain ⟨v_4, e_4, h⟩ := bd_some h
      refine go_Vi (r := v_4) (As := [.int x3]) (rest := []) (wc := (wB a k lab sg cc ci od sd go ta we oe fp ro sp qr qs)) (wr := []) (w1 := (wB a k lab sg cc ci od sd go ta we oe fp ro sp qr qs)) (w2 := (wB a k lab sg cc ci od sd go ta we oe fp ro sp qr qs)) (tc := [(k 1, .int), (k 2, .int), (k 3, .int), (k 4, .int), (k 5, .boolean), (k 6, .int), (k 8, .int), (k 9, .int), (k 11, .long)]) hx hb hml hown ht (c_B_placesJoined l D a k H.size x3 lab sg cc ci od sd go ta we oe fp ro sp qr qs v_4 e_4) g_B_139 ⟨rfl, rfl⟩ (n := 1) (by decide +kernel) ⟨(Nat.le_of_ble_eq_true rfl), (Nat.le_of_ble_eq_true rfl)⟩ hP hD hK hS hA ⟨Nat.zero_le _, Nat.zero_le _⟩ [0, 1, 2, 3, 4, 5, 6, 7, 8, 9, 10, 11, 12] [] [0, 1, 2, 3, 4, 5, 6, 7, 8] [0, 1, 2, 3, 4, 5, 6, 7, 8, 9, 10, 11, 12] rfl rfl rfl rfl (by decide) (by decide) (by decide) rfl (by decide) 0 rfl rfl rfl rfl rfl hl.1 (Nat.le_of_ble_eq_true rfl) d_B_mostJoined_29 (fun H locs hP hD hS => ?_)
      exact (k_B_mostJoined_32 C hrec6) _ _ _ _ _ _ _ _ _ h _ _ _ hP hD hS (lv_sub hl [0, 1, 2, 3] rfl)
    · have h := ite_F c_3 h
      refine lv_iconst (v := (-1)) hx hb d_B_mostJoined_23 (by decide) ?_
      refine lv_goto (tgt := 32) hx hb d_B_mostJoined_24 (by decide) ?_
      exact (k_B_mostJoined_32 C hrec6) _ _ _ _ _ _ _ _ _ h _ _ _ hP hD hS (lv_sub hl [0, 1, 2, 3] rfl)
theorem k_B_mostJoined_6_L {p : Program} {l : Launch} {e : Env} {s : State} {m : MethodId} {args : Array Value} {below : List Frame} {meth : Method} {c : Code} {D : va_G} {A : Nat → Prop} {a : Nat → Nat} {k : Nat → ClassId} {sg : Nat → Int32} {ci : Int32} {od : Nat → Int32} {ta : Nat → Int32} {we : Int32} {oe : Nat → Int32} {fp : Nat → Int32} {ro : Nat → Int64} {sp : Nat → Int64} {qr : Nat} {qs : Nat} (C : cx D [(k 1, .int), (k 2, .int), (k 3, .int), (k 4, .int), (k 5, .boolean), (k 6, .int), (k 8, .int), (k 9, .int), (k 11, .long)] R_B b_B_mostJoined 5 (some .int) A p s m args meth c) : ∀ n : Nat, H_B_mostJoined_6 p l e s m args below meth c D A a k sg ci od ta we oe fp ro sp qr qs (L_B_mostJoined_6 n)
  | 0 => fun _ _ _ _ _ _ _ _ h => nomatch h
  | n + 1 => k_B_mostJoined_6 C (k_B_mostJoined_6_L C n)
set_option maxHeartbeats 4000000 in
set_option maxRecDepth 100000 in
theorem k_B_mostJoined_0 {p : Program} {l : Launch} {e : Env} {s : State} {m : MethodId} {args : Array Value} {below : List Frame} {meth : Method} {c : Code} {D : va_G} {A : Nat → Prop} {a : Nat → Nat} {k : Nat → ClassId} {sg : Nat → Int32} {ci : Int32} {od : Nat → Int32} {ta : Nat → Int32} {we : Int32} {oe : Nat → Int32} {fp : Nat → Int32} {ro : Nat → Int64} {sp : Nat → Int64} {qr : Nat} {qs : Nat} (C : cx D [(k 1, .int), (k 2, .int), (k 3, .int), (k 4, .int), (k 5, .boolean), (k 6, .int), (k 8, .int), (k 9, .int), (k 11, .long)] R_B b_B_mostJoined 5 (some .int) A p s m args meth c) : H_B_mostJoined_0 p l e s m args below meth c D A a k sg ci od ta we oe fp ro sp qr qs (J_B_mostJoined_0) := by
  obtain ⟨hx, hb, hr, hml, hown, ht, hlk, hA, hK⟩ := id C
  intro lab cc sd go r h H locs ls hP hD hS hl
  unfold J_B_mostJoined_0 at h
  refine lv_iconst (v := 0) hx hb d_B_mostJoined_0 (by decide) ?_
  refine lv_istore_n (lv' := [(1, .int (0 : Int32)), (0, .ref (a 0))]) hx hb d_B_mostJoined_1 rfl hl (by decide) rfl (fun ls hl => ?_)
  refine lv_iconst (v := (-1)) hx hb d_B_mostJoined_2 (by decide) ?_
  refine lv_istore_n (lv' := [(2, .int (-1 : Int32)), (1, .int (0 : Int32)), (0, .ref (a 0))]) hx hb d_B_mostJoined_3 rfl hl (by decide) rfl (fun ls hl => ?_)
  refine lv_iconst (v := 0) hx hb d_B_mostJoined_4 (by decide) ?_
  refine lv_istore_n (lv' := [(3, .int (0 : Int32)), (2, .int (-1 : Int32)), (1, .int (0 : Int32)), (0, .ref (a 0))]) hx hb d_B_mostJoined_5 rfl hl (by decide) rfl (fun ls hl => ?_)
  exact (k_B_mostJoined_6_L C fu) _ _ _ _ _ _ _ _ h _ _ _ hP hD hS (lv_sub hl [3, 2, 1, 0] rfl)
set_option maxRecDepth 20000 in
theorem c_B_mostJoined (l : Launch) (D : va_G) (a : Nat → Nat) (k : Nat → ClassId) (sz : Nat) (lab : Nat → Int32) (sg : Nat → Int32) (cc : Int32) (ci : Int32) (od : Nat → Int32) (sd : Nat → Int32) (go : Nat → Int32) (ta : Nat → Int32) (we : Int32) (oe : Nat → Int32) (fp : Nat → Int32) (ro : Nat → Int64) (sp : Nat → Int64) (qr : Nat) (qs : Nat) (r : Int32) (h : F_B_mostJoined lab cc sd go = some r) : Met l y_B_mostJoined (Cond.code y_B_mostJoined b_B_mostJoined 5 (some .int) :: lw_g) (rm_B_mostJoined) (va_Pc [.ref (a 0)] (pcW D [(k 1, .int), (k 2, .int), (k 3, .int), (k 4, .int), (k 5, .boolean), (k 6, .int), (k 8, .int), (k 9, .int), (k 11, .long)] (wB a k lab sg cc ci od sd go ta we oe fp ro sp qr qs) sz)) (qc_B_mostJoined D (va_A (wB a k lab sg cc ci od sd go ta we oe fp ro sp qr qs) sz) a k lab sg cc ci od sd go ta we oe fp ro sp qr qs r) 0 0 (va_A (wB a k lab sg cc ci od sd go ta we oe fp ro sp qr qs) sz) := by
  refine Met.ofW (cc := b_B_mostJoined) (maxL := 5) (ret := (some .int)) (by decide) rfl ?_
  intro p e s m args below meth c s₁ B hml hv
  obtain ⟨rfl, hsz, hP, hK, hD0⟩ := hv
  have hts := atoms_spec (ws := Cond.code y_B_mostJoined b_B_mostJoined 5 (some .int) :: lw_g) B.pre
  subst hsz
  have hD := hD0.self (sz := s.heap.size)
  have hl := lv_entry ([.ref (a 0)]) (n := 5) (Nat.le_of_ble_eq_true rfl)
  rw [lg_entry_eq]
  generalize (lg_sl ([.ref (a 0)]) ++ List.replicate (5 - (lg_sl ([.ref (a 0)])).length) Slot.unset).toArray = ls at hl ⊢
  exact k_B_mostJoined_0 ⟨B.exec, B.bytes, B.returns, hml, findClass_of_methodNamed B.named, fun w hw => hts w (List.mem_cons_of_mem _ hw), B.notSynchronized, fun q h => Or.inr h, hK⟩ _ _ _ _ _ h _ _ _ hP hD va_S.rf hl

def rm_B_goOver : Room := { frames := 0, cells := 0, slots := 0, locals := 0 }
def qc_B_goOver (D : va_G) (A : Nat → Prop) (a : Nat → Nat) (k : Nat → ClassId) (lab : Nat → Int32) (sg : Nat → Int32) (cc : Int32) (ci : Int32) (od : Nat → Int32) (ta : Nat → Int32) (we : Int32) (oe : Nat → Int32) (fp : Nat → Int32) (ro : Nat → Int64) (sp : Nat → Int64) (qr : Nat) (qs : Nat) (r : Int32 × (Nat → Int32) × (Nat → Int32)) : Array Value → State → Outcome → State → Prop := va_Qi (fun (r1 : Int32) (_ : Unit) => r1 = r.1) (poW D [(k 1, .int), (k 2, .int), (k 3, .int), (k 4, .int), (k 5, .boolean), (k 6, .int), (k 8, .int), (k 9, .int), (k 11, .long)] (wB a k lab sg cc ci od r.2.1 r.2.2 ta we oe fp ro sp qr qs) A) A
def J_B_goOver_6 (rec6 : Int32 → Int32 → Int32 → (Nat → Int32) → (Nat → Int32) → (Nat → Int32) → Option (Int32 × (Nat → Int32) × (Nat → Int32))) (x1 : Int32) (x2 : Int32) (x3 : Int32) (lab : Nat → Int32) (sd : Nat → Int32) (go : Nat → Int32) : Option (Int32 × (Nat → Int32) × (Nat → Int32)) :=
  (if ((4 : Int32) * (x1 + (1 : Int32))) ≤ x3 then (if inb x1 10 then some (x2, sd, (upd go x1.toNatClampNeg (vp_nar .boolean (1 : Int32)))) else none) else (if inb x3 40 then (if inb (lab x3.toNatClampNeg) 100 then (if inb (lab x3.toNatClampNeg) 100 then (if inb x3 40 then (if inb (lab x3.toNatClampNeg) 100 then (if ((upd sd (lab x3.toNatClampNeg).toNatClampNeg ((sd (lab x3.toNatClampNeg).toNatClampNeg) + (1 : Int32))) (lab x3.toNatClampNeg).toNatClampNeg) = (1 : Int32) then rec6 x1 (x2 + (1 : Int32)) (x3 + 1) lab (upd sd (lab x3.toNatClampNeg).toNatClampNeg ((sd (lab x3.toNatClampNeg).toNatClampNeg) + (1 : Int32))) go else rec6 x1 (x2 + (-1 : Int32)) (x3 + 1) lab (upd sd (lab x3.toNatClampNeg).toNatClampNeg ((sd (lab x3.toNatClampNeg).toNatClampNeg) + (1 : Int32))) go) else none) else none) else none) else none) else none))
def L_B_goOver_6 : Nat → Int32 → Int32 → Int32 → (Nat → Int32) → (Nat → Int32) → (Nat → Int32) → Option (Int32 × (Nat → Int32) × (Nat → Int32))
  | 0 => fun _ _ _ _ _ _ => none
  | n + 1 => J_B_goOver_6 (L_B_goOver_6 n)
def J_B_goOver_0 (x1 : Int32) (lab : Nat → Int32) (sd : Nat → Int32) (go : Nat → Int32) : Option (Int32 × (Nat → Int32) × (Nat → Int32)) :=
  L_B_goOver_6 fu x1 (0 : Int32) ((4 : Int32) * x1) lab sd go
def F_B_goOver (x1 : Int32) (lab : Nat → Int32) (sd : Nat → Int32) (go : Nat → Int32) : Option (Int32 × (Nat → Int32) × (Nat → Int32)) := J_B_goOver_0 x1 lab sd go
def H_B_goOver_6 (p : Program) (l : Launch) (e : Env) (s : State) (m : MethodId) (args : Array Value) (below : List Frame) (meth : Method) (c : Code) (D : va_G) (A : Nat → Prop) (a : Nat → Nat) (k : Nat → ClassId) (sg : Nat → Int32) (cc : Int32) (ci : Int32) (od : Nat → Int32) (ta : Nat → Int32) (we : Int32) (oe : Nat → Int32) (fp : Nat → Int32) (ro : Nat → Int64) (sp : Nat → Int64) (qr : Nat) (qs : Nat) (f : Int32 → Int32 → Int32 → (Nat → Int32) → (Nat → Int32) → (Nat → Int32) → Option (Int32 × (Nat → Int32) × (Nat → Int32))) : Prop := ∀ (x1 : Int32) (x2 : Int32) (x3 : Int32) (lab : Nat → Int32) (sd : Nat → Int32) (go : Nat → Int32) (r : Int32 × (Nat → Int32) × (Nat → Int32)), f x1 x2 x3 lab sd go = some r → ∀ (H : Heap) (locs : List Loc) (ls : Array Slot), va_P D classes (wB a k lab sg cc ci od sd go ta we oe fp ro sp qr qs) H → va_D A (wB a k lab sg cc ci od sd go ta we oe fp ro sp qr qs) → va_S A s.heap H locs → lv_has ls 4 [(0, .ref (a 0)), (1, .int x1), (2, .int x2), (3, .int x3)] → W p l e (rm_B_goOver) s m args below meth c H locs 0 0 (MQ below (qc_B_goOver D A a k lab sg cc ci od ta we oe fp ro sp qr qs r) args s 0 0 A) (F0 m 6 ls [])
def H_B_goOver_0 (p : Program) (l : Launch) (e : Env) (s : State) (m : MethodId) (args : Array Value) (below : List Frame) (meth : Method) (c : Code) (D : va_G) (A : Nat → Prop) (a : Nat → Nat) (k : Nat → ClassId) (sg : Nat → Int32) (cc : Int32) (ci : Int32) (od : Nat → Int32) (ta : Nat → Int32) (we : Int32) (oe : Nat → Int32) (fp : Nat → Int32) (ro : Nat → Int64) (sp : Nat → Int64) (qr : Nat) (qs : Nat) (f : Int32 → (Nat → Int32) → (Nat → Int32) → (Nat → Int32) → Option (Int32 × (Nat → Int32) × (Nat → Int32))) : Prop := ∀ (x1 : Int32) (lab : Nat → Int32) (sd : Nat → Int32) (go : Nat → Int32) (r : Int32 × (Nat → Int32) × (Nat → Int32)), f x1 lab sd go = some r → ∀ (H : Heap) (locs : List Loc) (ls : Array Slot), va_P D classes (wB a k lab sg cc ci od sd go ta we oe fp ro sp qr qs) H → va_D A (wB a k lab sg cc ci od sd go ta we oe fp ro sp qr qs) → va_S A s.heap H locs → lv_has ls 4 [(0, .ref (a 0)), (1, .int x1)] → W p l e (rm_B_goOver) s m args below meth c H locs 0 0 (MQ below (qc_B_goOver D A a k lab sg cc ci od ta we oe fp ro sp qr qs r) args s 0 0 A) (F0 m 0 ls [])
set_option maxHeartbeats 4000000 in
set_option maxRecDepth 100000 in
theorem k_B_goOver_6 {p : Program} {l : Launch} {e : Env} {s : State} {m : MethodId} {args : Array Value} {below : List Frame} {meth : Method} {c : Code} {D : va_G} {A : Nat → Prop} {a : Nat → Nat} {k : Nat → ClassId} {sg : Nat → Int32} {cc : Int32} {ci : Int32} {od : Nat → Int32} {ta : Nat → Int32} {we : Int32} {oe : Nat → Int32} {fp : Nat → Int32} {ro : Nat → Int64} {sp : Nat → Int64} {qr : Nat} {qs : Nat} {rec6 : Int32 → Int32 → Int32 → (Nat → Int32) → (Nat → Int32) → (Nat → Int32) → Option (Int32 × (Nat → Int32) × (Nat → Int32))} (C : cx D [(k 1, .int), (k 2, .int), (k 3, .int), (k 4, .int), (k 5, .boolean), (k 6, .int), (k 8, .int), (k 9, .int), (k 11, .long)] R_B b_B_goOver 4 (some .int) A p s m args meth c) (hrec6 : H_B_goOver_6 p l e s m args below meth c D A a k sg cc ci od ta we oe fp ro sp qr qs rec6) : H_B_goOver_6 p l e s m args below meth c D A a k sg cc ci od ta we oe fp ro sp qr qs (J_B_goOver_6 rec6) := by
  obtain ⟨hx, hb, hr, hml, hown, ht, hlk, hA, hK⟩ := id C
  intro x1 x2 x3 lab sd go r h H locs ls hP hD hS hl
  unfold J_B_goOver_6 at h
  refine lv_iload_n hx hb d_B_goOver_6 rfl (lv_at hl 3 rfl) ?_
  refine lv_iconst (v := 4) hx hb d_B_goOver_7 (by decide) ?_
  refine lv_iload_n hx hb d_B_goOver_8 rfl (lv_at hl 1 rfl) ?_
  refine lv_iconst (v := 1) hx hb d_B_goOver_9 (by decide) ?_
  refine lv_iadd hx hb d_B_goOver_10 ?_
  refine lv_imul hx hb d_B_goOver_11 ?_
  refine lv_icmp_ge (tgt := 59) hx hb d_B_goOver_12 (by decide) (fun c_1 => ?_) (fun c_1 => ?_)
  · have h := ite_T c_1 h
    refine lv_aload_n hx hb d_B_goOver_59 rfl (lv_at hl 0 rfl) ?_
    refine va_get (D := D) (ci := 0) (v := .ref (a 5)) (C := R_B) (T := F_B) (N := 11) hx hb ht iC_B hown hK hP 0 rfl rfl 6 (by decide) (ht _ ix_59) (fun _ h9 => h9) rfl d_B_goOver_60 ?_
    refine lv_iload_n hx hb d_B_goOver_63 rfl (lv_at hl 1 rfl) ?_
    refine lv_iconst (v := 1) hx hb d_B_goOver_64 (by decide) ?_
    obtain ⟨g_2, h⟩ := gd_some h
    refine va_zast hx hb hK hP hD hS 5 4 rfl rfl (inb_in g_2) d_B_goOver_65 (fun H locs hP hD hS => ?_)
    have hP : va_P D classes (wB a k lab sg cc ci od sd (upd go x1.toNatClampNeg (vp_nar .boolean (1 : Int32))) ta we oe fp ro sp qr qs) H := hP
    have hD : va_D A (wB a k lab sg cc ci od sd (upd go x1.toNatClampNeg (vp_nar .boolean (1 : Int32))) ta we oe fp ro sp qr qs) := hD
    refine lv_iload_n hx hb d_B_goOver_66 rfl (lv_at hl 2 rfl) ?_
    cases h
    exact W.iret hx hb hr (fun t ht hW => ⟨⟨_, (), rfl, rfl, by rw [ht]; exact hP, va_K.moved hW.alike hK, hD⟩, hS.F ht⟩) hS.2.2 d_B_goOver_67 hlk
  · have h := ite_F c_1 h
    refine lv_aload_n hx hb d_B_goOver_15 rfl (lv_at hl 0 rfl) ?_
    refine va_get (D := D) (ci := 0) (v := .ref (a 4)) (C := R_B) (T := F_B) (N := 11) hx hb ht iC_B hown hK hP 0 rfl rfl 5 (by decide) (ht _ ix_41) (fun _ h9 => h9) rfl d_B_goOver_16 ?_
    refine lv_aload_n hx hb d_B_goOver_19 rfl (lv_at hl 0 rfl) ?_
    refine va_get (D := D) (ci := 0) (v := .ref (a 1)) (C := R_B) (T := F_B) (N := 11) hx hb ht iC_B hown hK hP 0 rfl rfl 0 (by decide) (ht _ ix_43) (fun _ h9 => h9) rfl d_B_goOver_20 ?_
    refine lv_iload_n hx hb d_B_goOver_23 rfl (lv_at hl 3 rfl) ?_
    obtain ⟨g_3, h⟩ := gd_some h
    refine va_iald hx hb hK hP 1 0 rfl rfl (inb_in g_3) d_B_goOver_24 ?_
    refine lv_dup2_11 hx hb d_B_goOver_25 rfl rfl ?_
    obtain ⟨g_4, h⟩ := gd_some h
    refine va_iald hx hb hK hP 4 3 rfl rfl (inb_in g_4) d_B_goOver_26 ?_
    refine lv_iconst (v := 1) hx hb d_B_goOver_27 (by decide) ?_
    refine lv_iadd hx hb d_B_goOver_28 ?_
    obtain ⟨g_5, h⟩ := gd_some h
    refine va_iast hx hb hK hP hD hS 4 3 rfl rfl (inb_in g_5) d_B_goOver_29 (fun H locs hP hD hS => ?_)
    have hP : va_P D classes (wB a k lab sg cc ci od (upd sd (lab x3.toNatClampNeg).toNatClampNeg ((sd (lab x3.toNatClampNeg).toNatClampNeg) + (1 : Int32))) go ta we oe fp ro sp qr qs) H := hP
    have hD : va_D A (wB a k lab sg cc ci od (upd sd (lab x3.toNatClampNeg).toNatClampNeg ((sd (lab x3.toNatClampNeg).toNatClampNeg) + (1 : Int32))) go ta we oe fp ro sp qr qs) := hD
    refine lv_iload_n hx hb d_B_goOver_30 rfl (lv_at hl 2 rfl) ?_
    refine lv_aload_n hx hb d_B_goOver_31 rfl (lv_at hl 0 rfl) ?_
    refine va_get (D := D) (ci := 0) (v := .ref (a 4)) (C := R_B) (T := F_B) (N := 11) hx hb ht iC_B hown hK hP 0 rfl rfl 5 (by decide) (ht _ ix_41) (fun _ h9 => h9) rfl d_B_goOver_32 ?_
    refine lv_aload_n hx hb d_B_goOver_35 rfl (lv_at hl 0 rfl) ?_
    refine va_get (D := D) (ci := 0) (v := .ref (a 1)) (C := R_B) (T := F_B) (N := 11) hx hb ht iC_B hown hK hP 0 rfl rfl 0 (by decide) (ht _ ix_43) (fun _ h9 => h9) rfl d_B_goOver_36 ?_
    refine lv_iload_n hx hb d_B_goOver_39 rfl (lv_at hl 3 rfl) ?_
    obtain ⟨g_6, h⟩ := gd_some h
    refine va_iald hx hb hK hP 1 0 rfl rfl (inb_in g_6) d_B_goOver_40 ?_
    obtain ⟨g_7, h⟩ := gd_some h
    refine va_iald hx hb hK hP 4 3 rfl rfl (inb_in g_7) d_B_goOver_41 ?_
    refine lv_iconst (v := 1) hx hb d_B_goOver_42 (by decide) ?_
    refine lv_icmp_ne (tgt := 50) hx hb d_B_goOver_43 (by decide) (fun c_8 => ?_) (fun c_8 => ?_)
    · have h := ite_F c_8 h
      refine lv_iconst (v := (-1)) hx hb d_B_goOver_50 (by decide) ?_
      refine lv_iadd hx hb d_B_goOver_51 ?_
      refine lv_istore_n (lv' := [(2, .int (x2 + (-1 : Int32))), (0, .ref (a 0)), (1, .int x1), (3, .int x3)]) hx hb d_B_goOver_52 rfl hl (by decide) rfl (fun ls hl => ?_)
      refine lv_iinc (v := x3 + 1) (lv' := [(3, .int (x3 + 1)), (2, .int (x2 + (-1 : Int32))), (0, .ref (a 0)), (1, .int x1)]) hx hb d_B_goOver_53 hl (k := 3) rfl rfl (by decide) rfl (fun ls hl => ?_)
      refine lv_goto (tgt := 6) hx hb d_B_goOver_56 (by decide) ?_
      exact hrec6 _ _ _ _ _ _ _ h _ _ _ hP hD hS (lv_sub hl [2, 3, 1, 0] rfl)
    · have h := ite_T c_8 h
      refine lv_iconst (v := 1) hx hb d_B_goOver_46 (by decide) ?_
      refine lv_goto (tgt := 51) hx hb d_B_goOver_47 (by decide) ?_
      refine lv_iadd hx hb d_B_goOver_51 ?_
      refine lv_istore_n (lv' := [(2, .int (x2 + (1 : Int32))), (0, .ref (a 0)), (1, .int x1), (3, .int x3)]) hx hb d_B_goOver_52 rfl hl (by decide) rfl (fun ls hl => ?_)
      refine lv_iinc (v := x3 + 1) (lv' := [(3, .int (x3 + 1)), (2, .int (x2 + (1 : Int32))), (0, .ref (a 0)), (1, .int x1)]) hx hb d_B_goOver_53 hl (k := 3) rfl rfl (by decide) rfl (fun ls hl => ?_)
      refine lv_goto (tgt := 6) hx hb d_B_goOver_56 (by decide) ?_
      exact hrec6 _ _ _ _ _ _ _ h _ _ _ hP hD hS (lv_sub hl [2, 3, 1, 0] rfl)
theorem k_B_goOver_6_L {p : Program} {l : Launch} {e : Env} {s : State} {m : MethodId} {args : Array Value} {below : List Frame} {meth : Method} {c : Code} {D : va_G} {A : Nat → Prop} {a : Nat → Nat} {k : Nat → ClassId} {sg : Nat → Int32} {cc : Int32} {ci : Int32} {od : Nat → Int32} {ta : Nat → Int32} {we : Int32} {oe : Nat → Int32} {fp : Nat → Int32} {ro : Nat → Int64} {sp : Nat → Int64} {qr : Nat} {qs : Nat} (C : cx D [(k 1, .int), (k 2, .int), (k 3, .int), (k 4, .int), (k 5, .boolean), (k 6, .int), (k 8, .int), (k 9, .int), (k 11, .long)] R_B b_B_goOver 4 (some .int) A p s m args meth c) : ∀ n : Nat, H_B_goOver_6 p l e s m args below meth c D A a k sg cc ci od ta we oe fp ro sp qr qs (L_B_goOver_6 n)
  | 0 => fun _ _ _ _ _ _ _ h => nomatch h
  | n + 1 => k_B_goOver_6 C (k_B_goOver_6_L C n)
set_option maxHeartbeats 4000000 in
set_option maxRecDepth 100000 in
theorem k_B_goOver_0 {p : Program} {l : Launch} {e : Env} {s : State} {m : MethodId} {args : Array Value} {below : List Frame} {meth : Method} {c : Code} {D : va_G} {A : Nat → Prop} {a : Nat → Nat} {k : Nat → ClassId} {sg : Nat → Int32} {cc : Int32} {ci : Int32} {od : Nat → Int32} {ta : Nat → Int32} {we : Int32} {oe : Nat → Int32} {fp : Nat → Int32} {ro : Nat → Int64} {sp : Nat → Int64} {qr : Nat} {qs : Nat} (C : cx D [(k 1, .int), (k 2, .int), (k 3, .int), (k 4, .int), (k 5, .boolean), (k 6, .int), (k 8, .int), (k 9, .int), (k 11, .long)] R_B b_B_goOver 4 (some .int) A p s m args meth c) : H_B_goOver_0 p l e s m args below meth c D A a k sg cc ci od ta we oe fp ro sp qr qs (J_B_goOver_0) := by
  obtain ⟨hx, hb, hr, hml, hown, ht, hlk, hA, hK⟩ := id C
  intro x1 lab sd go r h H locs ls hP hD hS hl
  unfold J_B_goOver_0 at h
  refine lv_iconst (v := 0) hx hb d_B_goOver_0 (by decide) ?_
  refine lv_istore_n (lv' := [(2, .int (0 : Int32)), (0, .ref (a 0)), (1, .int x1)]) hx hb d_B_goOver_1 rfl hl (by decide) rfl (fun ls hl => ?_)
  refine lv_iconst (v := 4) hx hb d_B_goOver_2 (by decide) ?_
  refine lv_iload_n hx hb d_B_goOver_3 rfl (lv_at hl 2 rfl) ?_
  refine lv_imul hx hb d_B_goOver_4 ?_
  refine lv_istore_n (lv' := [(3, .int ((4 : Int32) * x1)), (2, .int (0 : Int32)), (0, .ref (a 0)), (1, .int x1)]) hx hb d_B_goOver_5 rfl hl (by decide) rfl (fun ls hl => ?_)
  exact (k_B_goOver_6_L C fu) _ _ _ _ _ _ _ h _ _ _ hP hD hS (lv_sub hl [2, 3, 1, 0] rfl)
set_option maxRecDepth 20000 in
theorem c_B_goOver (l : Launch) (D : va_G) (a : Nat → Nat) (k : Nat → ClassId) (sz : Nat) (x1 : Int32) (lab : Nat → Int32) (sg : Nat → Int32) (cc : Int32) (ci : Int32) (od : Nat → Int32) (sd : Nat → Int32) (go : Nat → Int32) (ta : Nat → Int32) (we : Int32) (oe : Nat → Int32) (fp : Nat → Int32) (ro : Nat → Int64) (sp : Nat → Int64) (qr : Nat) (qs : Nat) (r : Int32 × (Nat → Int32) × (Nat → Int32)) (h : F_B_goOver x1 lab sd go = some r) : Met l y_B_goOver (Cond.code y_B_goOver b_B_goOver 4 (some .int) :: lw_g) (rm_B_goOver) (va_Pc [.ref (a 0), .int x1] (pcW D [(k 1, .int), (k 2, .int), (k 3, .int), (k 4, .int), (k 5, .boolean), (k 6, .int), (k 8, .int), (k 9, .int), (k 11, .long)] (wB a k lab sg cc ci od sd go ta we oe fp ro sp qr qs) sz)) (qc_B_goOver D (va_A (wB a k lab sg cc ci od sd go ta we oe fp ro sp qr qs) sz) a k lab sg cc ci od ta we oe fp ro sp qr qs r) 0 0 (va_A (wB a k lab sg cc ci od sd go ta we oe fp ro sp qr qs) sz) := by
  refine Met.ofW (cc := b_B_goOver) (maxL := 4) (ret := (some .int)) (by decide) rfl ?_
  intro p e s m args below meth c s₁ B hml hv
  obtain ⟨rfl, hsz, hP, hK, hD0⟩ := hv
  have hts := atoms_spec (ws := Cond.code y_B_goOver b_B_goOver 4 (some .int) :: lw_g) B.pre
  subst hsz
  have hD := hD0.self (sz := s.heap.size)
  have hl := lv_entry ([.ref (a 0), .int x1]) (n := 4) (Nat.le_of_ble_eq_true rfl)
  rw [lg_entry_eq]
  generalize (lg_sl ([.ref (a 0), .int x1]) ++ List.replicate (4 - (lg_sl ([.ref (a 0), .int x1])).length) Slot.unset).toArray = ls at hl ⊢
  exact k_B_goOver_0 ⟨B.exec, B.bytes, B.returns, hml, findClass_of_methodNamed B.named, fun w hw => hts w (List.mem_cons_of_mem _ hw), B.notSynchronized, fun q h => Or.inr h, hK⟩ _ _ _ _ _ h _ _ _ hP hD va_S.rf hl

def rm_B_unite : Room := { frames := 2, cells := 0, slots := 0, locals := 36 }
def qc_B_unite (D : va_G) (A : Nat → Prop) (a : Nat → Nat) (k : Nat → ClassId) (sg : Nat → Int32) (cc : Int32) (ci : Int32) (od : Nat → Int32) (sd : Nat → Int32) (go : Nat → Int32) (ta : Nat → Int32) (we : Int32) (oe : Nat → Int32) (fp : Nat → Int32) (ro : Nat → Int64) (sp : Nat → Int64) (qr : Nat) (qs : Nat) (r : (Nat → Int32)) : Array Value → State → Outcome → State → Prop := va_Qv (fun (_ : Unit) => True) (poW D [(k 1, .int), (k 2, .int), (k 3, .int), (k 4, .int), (k 5, .boolean), (k 6, .int), (k 8, .int), (k 9, .int), (k 11, .long)] (wB a k r sg cc ci od sd go ta we oe fp ro sp qr qs) A) A
def J_B_unite_2 (rec2 : Int32 → Int32 → Int32 → (Nat → Int32) → Int32 → Option ((Nat → Int32))) (x1 : Int32) (x2 : Int32) (x3 : Int32) (lab : Nat → Int32) (cc : Int32) : Option ((Nat → Int32)) :=
  (if ((4 : Int32) * cc) ≤ x3 then some (lab) else (if inb x3 40 then (Option.bind (F_B_renamed (lab x3.toNatClampNeg) x1 x2) (fun v_3 => (if inb x3 40 then rec2 x1 x2 (x3 + 1) (upd lab x3.toNatClampNeg v_3) cc else none))) else none))
def L_B_unite_2 : Nat → Int32 → Int32 → Int32 → (Nat → Int32) → Int32 → Option ((Nat → Int32))
  | 0 => fun _ _ _ _ _ => none
  | n + 1 => J_B_unite_2 (L_B_unite_2 n)
def J_B_unite_0 (x1 : Int32) (x2 : Int32) (lab : Nat → Int32) (cc : Int32) : Option ((Nat → Int32)) :=
  L_B_unite_2 fu x1 x2 (0 : Int32) lab cc
def F_B_unite (x1 : Int32) (x2 : Int32) (lab : Nat → Int32) (cc : Int32) : Option ((Nat → Int32)) := J_B_unite_0 x1 x2 lab cc
def H_B_unite_2 (p : Program) (l : Launch) (e : Env) (s : State) (m : MethodId) (args : Array Value) (below : List Frame) (meth : Method) (c : Code) (D : va_G) (A : Nat → Prop) (a : Nat → Nat) (k : Nat → ClassId) (sg : Nat → Int32) (ci : Int32) (od : Nat → Int32) (sd : Nat → Int32) (go : Nat → Int32) (ta : Nat → Int32) (we : Int32) (oe : Nat → Int32) (fp : Nat → Int32) (ro : Nat → Int64) (sp : Nat → Int64) (qr : Nat) (qs : Nat) (f : Int32 → Int32 → Int32 → (Nat → Int32) → Int32 → Option ((Nat → Int32))) : Prop := ∀ (x1 : Int32) (x2 : Int32) (x3 : Int32) (lab : Nat → Int32) (cc : Int32) (r : (Nat → Int32)), f x1 x2 x3 lab cc = some r → ∀ (H : Heap) (locs : List Loc) (ls : Array Slot), va_P D classes (wB a k lab sg cc ci od sd go ta we oe fp ro sp qr qs) H → va_D A (wB a k lab sg cc ci od sd go ta we oe fp ro sp qr qs) → va_S A s.heap H locs → lv_has ls 4 [(0, .ref (a 0)), (1, .int x1), (2, .int x2), (3, .int x3)] → W p l e (rm_B_unite) s m args below meth c H locs 0 0 (MQ below (qc_B_unite D A a k sg cc ci od sd go ta we oe fp ro sp qr qs r) args s 0 0 A) (F0 m 2 ls [])
def H_B_unite_0 (p : Program) (l : Launch) (e : Env) (s : State) (m : MethodId) (args : Array Value) (below : List Frame) (meth : Method) (c : Code) (D : va_G) (A : Nat → Prop) (a : Nat → Nat) (k : Nat → ClassId) (sg : Nat → Int32) (ci : Int32) (od : Nat → Int32) (sd : Nat → Int32) (go : Nat → Int32) (ta : Nat → Int32) (we : Int32) (oe : Nat → Int32) (fp : Nat → Int32) (ro : Nat → Int64) (sp : Nat → Int64) (qr : Nat) (qs : Nat) (f : Int32 → Int32 → (Nat → Int32) → Int32 → Option ((Nat → Int32))) : Prop := ∀ (x1 : Int32) (x2 : Int32) (lab : Nat → Int32) (cc : Int32) (r : (Nat → Int32)), f x1 x2 lab cc = some r → ∀ (H : Heap) (locs : List Loc) (ls : Array Slot), va_P D classes (wB a k lab sg cc ci od sd go ta we oe fp ro sp qr qs) H → va_D A (wB a k lab sg cc ci od sd go ta we oe fp ro sp qr qs) → va_S A s.heap H locs → lv_has ls 4 [(0, .ref (a 0)), (1, .int x1), (2, .int x2)] → W p l e (rm_B_unite) s m args below meth c H locs 0 0 (MQ below (qc_B_unite D A a k sg cc ci od sd go ta we oe fp ro sp qr qs r) args s 0 0 A) (F0 m 0 ls [])
set_option maxHeartbeats 4000000 in
set_option maxRecDepth 100000 in
theorem k_B_unite_2 {p : Program} {l : Launch} {e : Env} {s : State} {m : MethodId} {args : Array Value} {below : List Frame} {meth : Method} {c : Code} {D : va_G} {A : Nat → Prop} {a : Nat → Nat} {k : Nat → ClassId} {sg : Nat → Int32} {ci : Int32} {od : Nat → Int32} {sd : Nat → Int32} {go : Nat → Int32} {ta : Nat → Int32} {we : Int32} {oe : Nat → Int32} {fp : Nat → Int32} {ro : Nat → Int64} {sp : Nat → Int64} {qr : Nat} {qs : Nat} {rec2 : Int32 → Int32 → Int32 → (Nat → Int32) → Int32 → Option ((Nat → Int32))} (C : cx D [(k 1, .int), (k 2, .int), (k 3, .int), (k 4, .int), (k 5, .boolean), (k 6, .int), (k 8, .int), (k 9, .int), (k 11, .long)] R_B b_B_unite 4 none A p s m args meth c) (hrec2 : H_B_unite_2 p l e s m args below meth c D A a k sg ci od sd go ta we oe fp ro sp qr qs rec2) : H_B_unite_2 p l e s m args below meth c D A a k sg ci od sd go ta we oe fp ro sp qr qs (J_B_unite_2 rec2) := by
  obtain ⟨hx, hb, hr, hml, hown, ht, hlk, hA, hK⟩ := id C
  intro x1 x2 x3 lab cc r h H locs ls hP hD hS hl
  unfold J_B_unite_2 at h
  refine lv_iload_n hx hb d_B_unite_2 rfl (lv_at hl 3 rfl) ?_
  refine lv_iconst (v := 4) hx hb d_B_unite_3 (by decide) ?_
  refine lv_aload_n hx hb d_B_unite_4 rfl (lv_at hl 0 rfl) ?_
  refine va_get (D := D) (ci := 0) (v := .int cc) (C := R_B) (T := F_B) (N := 11) hx hb ht iC_B hown hK hP 0 rfl rfl 2 (by decide) (ht _ ix_38) (fun _ h9 => h9) rfl d_B_unite_5 ?_
  refine lv_imul hx hb d_B_unite_8 ?_
  refine lv_icmp_ge (tgt := 35) hx hb d_B_unite_9 (by decide) (fun c_1 => ?_) (fun c_1 => ?_)
  · have h := ite_T c_1 h
    cases h
    exact W.vret hx hb hr (fun t ht hW => ⟨⟨(), rfl, trivial, by rw [ht]; exact hP, va_K.moved hW.alike hK, hD⟩, hS.F ht⟩) hS.2.2 d_B_unite_35 hlk
  · have h := ite_F c_1 h
    refine lv_aload_n hx hb d_B_unite_12 rfl (lv_at hl 0 rfl) ?_
    refine va_get (D := D) (ci := 0) (v := .ref (a 1)) (C := R_B) (T := F_B) (N := 11) hx hb ht iC_B hown hK hP 0 rfl rfl 0 (by decide) (ht _ ix_43) (fun _ h9 => h9) rfl d_B_unite_13 ?_
    refine lv_iload_n hx hb d_B_unite_16 rfl (lv_at hl 3 rfl) ?_
    refine lv_aload_n hx hb d_B_unite_17 rfl (lv_at hl 0 rfl) ?_
    refine va_get (D := D) (ci := 0) (v := .ref (a 1)) (C := R_B) (T := F_B) (N := 11) hx hb ht iC_B hown hK hP 0 rfl rfl 0 (by decide) (ht _ ix_43) (fun _ h9 => h9) rfl d_B_unite_18 ?_
    refine lv_iload_n hx hb d_B_unite_21 rfl (lv_at hl 3 rfl) ?_
    obtain ⟨g_2, h⟩ := gd_some h
    refine va_iald hx hb hK hP 1 0 rfl rfl (inb_in g_2) d_B_unite_22 ?_
    refine lv_iload_n hx hb d_B_unite_23 rfl (lv_at hl 1 rfl) ?_
    refine lv_iload_n hx hb d_B_unite_24 rfl (lv_at hl 2 rfl) ?_
    obtain ⟨v_3, e_3, h⟩ := bd_some h
    refine go_Si (r := v_3) (As := [.int (lab x3.toNatClampNeg), .int x1, .int x2]) (rest := [.int x3, .ref (a 1)]) (wc := (wN a k )) (wr := [((a 0), .inr (0, [.ref (a 1), .ref (a 2), .int cc, .int ci, .ref (a 3), .ref (a 4), .ref (a 5), .ref (a 6), .ref (a 7), .ref (a 10), .int we])), ((a 1), .inl (k 1, 40, .inl lab)), ((a 2), .inl (k 2, 10, .inl sg)), ((a 3), .inl (k 3, 10, .inl od)), ((a 4), .inl (k 4, 100, .inl sd)), ((a 5), .inl (k 5, 10, .inl go)), ((a 6), .inl (k 6, 330, .inl ta)), ((a 7), .inr (1, [.ref (a 8), .ref (a 9)])), ((a 8), .inl (k 8, 40, .inl oe)), ((a 9), .inl (k 9, 100, .inl fp)), ((a 10), .inr (2, [.ref qr, .ref qs])), (qr, .inl (k 11, 133, .inr (.inl ro))), (qs, .inl (k 11, 133, .inr (.inl sp)))]) (w1 := (wN a k )) (w2 := (wB a k lab sg cc ci od sd go ta we oe fp ro sp qr qs)) (tc := []) hx hb hml hown ht (c_B_renamed l D a k H.size (lab x3.toNatClampNeg) x1 x2 v_3 e_3) g_B_120 ⟨rfl, rfl⟩ (n := 3) (by decide +kernel) ⟨(Nat.le_of_ble_eq_true rfl), (Nat.le_of_ble_eq_true rfl)⟩ hP hD hK hS hA ⟨Nat.zero_le _, Nat.zero_le _⟩ [] [0, 1, 2, 3, 4, 5, 6, 7, 8, 9, 10, 11, 12] [] [0, 1, 2, 3, 4, 5, 6, 7, 8, 9, 10, 11, 12] rfl rfl rfl rfl (by decide) (by decide) (by decide) rfl (by decide) rfl rfl hl.1 (Nat.le_of_ble_eq_true rfl) d_B_unite_25 (fun H locs hP hD hS => ?_)
    obtain ⟨g_4, h⟩ := gd_some h
    refine va_iast hx hb hK hP hD hS 1 0 rfl rfl (inb_in g_4) d_B_unite_28 (fun H locs hP hD hS => ?_)
    have hP : va_P D classes (wB a k (upd lab x3.toNatClampNeg v_3) sg cc ci od sd go ta we oe fp ro sp qr qs) H := hP
    have hD : va_D A (wB a k (upd lab x3.toNatClampNeg v_3) sg cc ci od sd go ta we oe fp ro sp qr qs) := hD
    refine lv_iinc (v := x3 + 1) (lv' := [(3, .int (x3 + 1)), (0, .ref (a 0)), (1, .int x1), (2, .int x2)]) hx hb d_B_unite_29 hl (k := 3) rfl rfl (by decide) rfl (fun ls hl => ?_)
    refine lv_goto (tgt := 2) hx hb d_B_unite_32 (by decide) ?_
    exact hrec2 _ _ _ _ _ _ h _ _ _ hP hD hS (lv_sub hl [1, 2, 3, 0] rfl)
theorem k_B_unite_2_L {p : Program} {l : Launch} {e : Env} {s : State} {m : MethodId} {args : Array Value} {below : List Frame} {meth : Method} {c : Code} {D : va_G} {A : Nat → Prop} {a : Nat → Nat} {k : Nat → ClassId} {sg : Nat → Int32} {ci : Int32} {od : Nat → Int32} {sd : Nat → Int32} {go : Nat → Int32} {ta : Nat → Int32} {we : Int32} {oe : Nat → Int32} {fp : Nat → Int32} {ro : Nat → Int64} {sp : Nat → Int64} {qr : Nat} {qs : Nat} (C : cx D [(k 1, .int), (k 2, .int), (k 3, .int), (k 4, .int), (k 5, .boolean), (k 6, .int), (k 8, .int), (k 9, .int), (k 11, .long)] R_B b_B_unite 4 none A p s m args meth c) : ∀ n : Nat, H_B_unite_2 p l e s m args below meth c D A a k sg ci od sd go ta we oe fp ro sp qr qs (L_B_unite_2 n)
  | 0 => fun _ _ _ _ _ _ h => nomatch h
  | n + 1 => k_B_unite_2 C (k_B_unite_2_L C n)
set_option maxHeartbeats 4000000 in
set_option maxRecDepth 100000 in
theorem k_B_unite_0 {p : Program} {l : Launch} {e : Env} {s : State} {m : MethodId} {args : Array Value} {below : List Frame} {meth : Method} {c : Code} {D : va_G} {A : Nat → Prop} {a : Nat → Nat} {k : Nat → ClassId} {sg : Nat → Int32} {ci : Int32} {od : Nat → Int32} {sd : Nat → Int32} {go : Nat → Int32} {ta : Nat → Int32} {we : Int32} {oe : Nat → Int32} {fp : Nat → Int32} {ro : Nat → Int64} {sp : Nat → Int64} {qr : Nat} {qs : Nat} (C : cx D [(k 1, .int), (k 2, .int), (k 3, .int), (k 4, .int), (k 5, .boolean), (k 6, .int), (k 8, .int), (k 9, .int), (k 11, .long)] R_B b_B_unite 4 none A p s m args meth c) : H_B_unite_0 p l e s m args below meth c D A a k sg ci od sd go ta we oe fp ro sp qr qs (J_B_unite_0) := by
  obtain ⟨hx, hb, hr, hml, hown, ht, hlk, hA, hK⟩ := id C
  intro x1 x2 lab cc r h H locs ls hP hD hS hl
  unfold J_B_unite_0 at h
  refine lv_iconst (v := 0) hx hb d_B_unite_0 (by decide) ?_
  refine lv_istore_n (lv' := [(3, .int (0 : Int32)), (0, .ref (a 0)), (1, .int x1), (2, .int x2)]) hx hb d_B_unite_1 rfl hl (by decide) rfl (fun ls hl => ?_)
  exact (k_B_unite_2_L C fu) _ _ _ _ _ _ h _ _ _ hP hD hS (lv_sub hl [1, 2, 3, 0] rfl)
set_option maxRecDepth 20000 in
theorem c_B_unite (l : Launch) (D : va_G) (a : Nat → Nat) (k : Nat → ClassId) (sz : Nat) (x1 : Int32) (x2 : Int32) (lab : Nat → Int32) (sg : Nat → Int32) (cc : Int32) (ci : Int32) (od : Nat → Int32) (sd : Nat → Int32) (go : Nat → Int32) (ta : Nat → Int32) (we : Int32) (oe : Nat → Int32) (fp : Nat → Int32) (ro : Nat → Int64) (sp : Nat → Int64) (qr : Nat) (qs : Nat) (r : (Nat → Int32)) (h : F_B_unite x1 x2 lab cc = some r) : Met l y_B_unite (Cond.code y_B_unite b_B_unite 4 none :: lw_g) (rm_B_unite) (va_Pc [.ref (a 0), .int x1, .int x2] (pcW D [(k 1, .int), (k 2, .int), (k 3, .int), (k 4, .int), (k 5, .boolean), (k 6, .int), (k 8, .int), (k 9, .int), (k 11, .long)] (wB a k lab sg cc ci od sd go ta we oe fp ro sp qr qs) sz)) (qc_B_unite D (va_A (wB a k lab sg cc ci od sd go ta we oe fp ro sp qr qs) sz) a k sg cc ci od sd go ta we oe fp ro sp qr qs r) 0 0 (va_A (wB a k lab sg cc ci od sd go ta we oe fp ro sp qr qs) sz) := by
  refine Met.ofW (cc := b_B_unite) (maxL := 4) (ret := none) (by decide) rfl ?_
  intro p e s m args below meth c s₁ B hml hv
  obtain ⟨rfl, hsz, hP, hK, hD0⟩ := hv
  have hts := atoms_spec (ws := Cond.code y_B_unite b_B_unite 4 none :: lw_g) B.pre
  subst hsz
  have hD := hD0.self (sz := s.heap.size)
  have hl := lv_entry ([.ref (a 0), .int x1, .int x2]) (n := 4) (Nat.le_of_ble_eq_true rfl)
  rw [lg_entry_eq]
  generalize (lg_sl ([.ref (a 0), .int x1, .int x2]) ++ List.replicate (4 - (lg_sl ([.ref (a 0), .int x1, .int x2])).length) Slot.unset).toArray = ls at hl ⊢
  exact k_B_unite_0 ⟨B.exec, B.bytes, B.returns, hml, findClass_of_methodNamed B.named, fun w hw => hts w (List.mem_cons_of_mem _ hw), B.notSynchronized, fun q h => Or.inr h, hK⟩ _ _ _ _ _ h _ _ _ hP hD va_S.rf hl

def rm_B_swapWithNext : Room := { frames := 0, cells := 0, slots := 0, locals := 0 }
def qc_B_swapWithNext (D : va_G) (A : Nat → Prop) (a : Nat → Nat) (k : Nat → ClassId) (cc : Int32) (ci : Int32) (od : Nat → Int32) (sd : Nat → Int32) (go : Nat → Int32) (ta : Nat → Int32) (we : Int32) (oe : Nat → Int32) (fp : Nat → Int32) (ro : Nat → Int64) (sp : Nat → Int64) (qr : Nat) (qs : Nat) (r : (Nat → Int32) × (Nat → Int32)) : Array Value → State → Outcome → State → Prop := va_Qv (fun (_ : Unit) => True) (poW D [(k 1, .int), (k 2, .int), (k 3, .int), (k 4, .int), (k 5, .boolean), (k 6, .int), (k 8, .int), (k 9, .int), (k 11, .long)] (wB a k r.1 r.2 cc ci od sd go ta we oe fp ro sp qr qs) A) A
def J_B_swapWithNext_34 (rec34 : Int32 → Int32 → (Nat → Int32) → (Nat → Int32) → Option ((Nat → Int32) × (Nat → Int32))) (x1 : Int32) (x3 : Int32) (lab : Nat → Int32) (sg : Nat → Int32) : Option ((Nat → Int32) × (Nat → Int32)) :=
  (if ((4 : Int32) * (x1 + (1 : Int32))) ≤ x3 then some (lab, sg) else (if inb x3 40 then (if inb (x3 + (4 : Int32)) 40 then (if inb x3 40 then (if inb (x3 + (4 : Int32)) 40 then rec34 x1 (x3 + 1) (upd (upd lab x3.toNatClampNeg (lab (x3 + (4 : Int32)).toNatClampNeg)) (x3 + (4 : Int32)).toNatClampNeg (lab x3.toNatClampNeg)) sg else none) else none) else none) else none))
def L_B_swapWithNext_34 : Nat → Int32 → Int32 → (Nat → Int32) → (Nat → Int32) → Option ((Nat → Int32) × (Nat → Int32))
  | 0 => fun _ _ _ _ => none
  | n + 1 => J_B_swapWithNext_34 (L_B_swapWithNext_34 n)
def J_B_swapWithNext_0 (x1 : Int32) (lab : Nat → Int32) (sg : Nat → Int32) : Option ((Nat → Int32) × (Nat → Int32)) :=
  (if inb x1 10 then (if inb (x1 + (1 : Int32)) 10 then (if inb x1 10 then (if inb (x1 + (1 : Int32)) 10 then L_B_swapWithNext_34 fu x1 ((4 : Int32) * x1) lab (upd (upd sg x1.toNatClampNeg (sg (x1 + (1 : Int32)).toNatClampNeg)) (x1 + (1 : Int32)).toNatClampNeg (sg x1.toNatClampNeg)) else none) else none) else none) else none)
def F_B_swapWithNext (x1 : Int32) (lab : Nat → Int32) (sg : Nat → Int32) : Option ((Nat → Int32) × (Nat → Int32)) := J_B_swapWithNext_0 x1 lab sg
def H_B_swapWithNext_34 (p : Program) (l : Launch) (e : Env) (s : State) (m : MethodId) (args : Array Value) (below : List Frame) (meth : Method) (c : Code) (D : va_G) (A : Nat → Prop) (a : Nat → Nat) (k : Nat → ClassId) (cc : Int32) (ci : Int32) (od : Nat → Int32) (sd : Nat → Int32) (go : Nat → Int32) (ta : Nat → Int32) (we : Int32) (oe : Nat → Int32) (fp : Nat → Int32) (ro : Nat → Int64) (sp : Nat → Int64) (qr : Nat) (qs : Nat) (f : Int32 → Int32 → (Nat → Int32) → (Nat → Int32) → Option ((Nat → Int32) × (Nat → Int32))) : Prop := ∀ (x1 : Int32) (x3 : Int32) (lab : Nat → Int32) (sg : Nat → Int32) (r : (Nat → Int32) × (Nat → Int32)), f x1 x3 lab sg = some r → ∀ (H : Heap) (locs : List Loc) (ls : Array Slot), va_P D classes (wB a k lab sg cc ci od sd go ta we oe fp ro sp qr qs) H → va_D A (wB a k lab sg cc ci od sd go ta we oe fp ro sp qr qs) → va_S A s.heap H locs → lv_has ls 5 [(0, .ref (a 0)), (1, .int x1), (3, .int x3)] → W p l e (rm_B_swapWithNext) s m args below meth c H locs 0 0 (MQ below (qc_B_swapWithNext D A a k cc ci od sd go ta we oe fp ro sp qr qs r) args s 0 0 A) (F0 m 34 ls [])
def H_B_swapWithNext_0 (p : Program) (l : Launch) (e : Env) (s : State) (m : MethodId) (args : Array Value) (below : List Frame) (meth : Method) (c : Code) (D : va_G) (A : Nat → Prop) (a : Nat → Nat) (k : Nat → ClassId) (cc : Int32) (ci : Int32) (od : Nat → Int32) (sd : Nat → Int32) (go : Nat → Int32) (ta : Nat → Int32) (we : Int32) (oe : Nat → Int32) (fp : Nat → Int32) (ro : Nat → Int64) (sp : Nat → Int64) (qr : Nat) (qs : Nat) (f : Int32 → (Nat → Int32) → (Nat → Int32) → Option ((Nat → Int32) × (Nat → Int32))) : Prop := ∀ (x1 : Int32) (lab : Nat → Int32) (sg : Nat → Int32) (r : (Nat → Int32) × (Nat → Int32)), f x1 lab sg = some r → ∀ (H : Heap) (locs : List Loc) (ls : Array Slot), va_P D classes (wB a k lab sg cc ci od sd go ta we oe fp ro sp qr qs) H → va_D A (wB a k lab sg cc ci od sd go ta we oe fp ro sp qr qs) → va_S A s.heap H locs → lv_has ls 5 [(0, .ref (a 0)), (1, .int x1)] → W p l e (rm_B_swapWithNext) s m args below meth c H locs 0 0 (MQ below (qc_B_swapWithNext D A a k cc ci od sd go ta we oe fp ro sp qr qs r) args s 0 0 A) (F0 m 0 ls [])
set_option maxHeartbeats 4000000 in
set_option maxRecDepth 100000 in
theorem k_B_swapWithNext_34 {p : Program} {l : Launch} {e : Env} {s : State} {m : MethodId} {args : Array Value} {below : List Frame} {meth : Method} {c : Code} {D : va_G} {A : Nat → Prop} {a : Nat → Nat} {k : Nat → ClassId} {cc : Int32} {ci : Int32} {od : Nat → Int32} {sd : Nat → Int32} {go : Nat → Int32} {ta : Nat → Int32} {we : Int32} {oe : Nat → Int32} {fp : Nat → Int32} {ro : Nat → Int64} {sp : Nat → Int64} {qr : Nat} {qs : Nat} {rec34 : Int32 → Int32 → (Nat → Int32) → (Nat → Int32) → Option ((Nat → Int32) × (Nat → Int32))} (C : cx D [(k 1, .int), (k 2, .int), (k 3, .int), (k 4, .int), (k 5, .boolean), (k 6, .int), (k 8, .int), (k 9, .int), (k 11, .long)] R_B b_B_swapWithNext 5 none A p s m args meth c) (hrec34 : H_B_swapWithNext_34 p l e s m args below meth c D A a k cc ci od sd go ta we oe fp ro sp qr qs rec34) : H_B_swapWithNext_34 p l e s m args below meth c D A a k cc ci od sd go ta we oe fp ro sp qr qs (J_B_swapWithNext_34 rec34) := by
  obtain ⟨hx, hb, hr, hml, hown, ht, hlk, hA, hK⟩ := id C
  intro x1 x3 lab sg r h H locs ls hP hD hS hl
  unfold J_B_swapWithNext_34 at h
  refine lv_iload_n hx hb d_B_swapWithNext_34 rfl (lv_at hl 2 rfl) ?_
  refine lv_iconst (v := 4) hx hb d_B_swapWithNext_35 (by decide) ?_
  refine lv_iload_n hx hb d_B_swapWithNext_36 rfl (lv_at hl 1 rfl) ?_
  refine lv_iconst (v := 1) hx hb d_B_swapWithNext_37 (by decide) ?_
  refine lv_iadd hx hb d_B_swapWithNext_38 ?_
  refine lv_imul hx hb d_B_swapWithNext_39 ?_
  refine lv_icmp_ge (tgt := 81) hx hb d_B_swapWithNext_40 (by decide) (fun c_1 => ?_) (fun c_1 => ?_)
  · have h := ite_T c_1 h
    cases h
    exact W.vret hx hb hr (fun t ht hW => ⟨⟨(), rfl, trivial, by rw [ht]; exact hP, va_K.moved hW.alike hK, hD⟩, hS.F ht⟩) hS.2.2 d_B_swapWithNext_81 hlk
  · have h := ite_F c_1 h
    refine lv_aload_n hx hb d_B_swapWithNext_43 rfl (lv_at hl 0 rfl) ?_
    refine va_get (D := D) (ci := 0) (v := .ref (a 1)) (C := R_B) (T := F_B) (N := 11) hx hb ht iC_B hown hK hP 0 rfl rfl 0 (by decide) (ht _ ix_43) (fun _ h9 => h9) rfl d_B_swapWithNext_44 ?_
    refine lv_iload_n hx hb d_B_swapWithNext_47 rfl (lv_at hl 2 rfl) ?_
    obtain ⟨g_2, h⟩ := gd_some h
    refine va_iald hx hb hK hP 1 0 rfl rfl (inb_in g_2) d_B_swapWithNext_48 ?_
    refine lv_istore (lv' := [(4, .int (lab x3.toNatClampNeg)), (0, .ref (a 0)), (1, .int x1), (3, .int x3)]) hx hb d_B_swapWithNext_49 hl (by decide) rfl (fun ls hl => ?_)
    refine lv_aload_n hx hb d_B_swapWithNext_51 rfl (lv_at hl 1 rfl) ?_
    refine va_get (D := D) (ci := 0) (v := .ref (a 1)) (C := R_B) (T := F_B) (N := 11) hx hb ht iC_B hown hK hP 0 rfl rfl 0 (by decide) (ht _ ix_43) (fun _ h9 => h9) rfl d_B_swapWithNext_52 ?_
    refine lv_iload_n hx hb d_B_swapWithNext_55 rfl (lv_at hl 3 rfl) ?_
    refine lv_aload_n hx hb d_B_swapWithNext_56 rfl (lv_at hl 1 rfl) ?_
    refine va_get (D := D) (ci := 0) (v := .ref (a 1)) (C := R_B) (T := F_B) (N := 11) hx hb ht iC_B hown hK hP 0 rfl rfl 0 (by decide) (ht _ ix_43) (fun _ h9 => h9) rfl d_B_swapWithNext_57 ?_
    refine lv_iload_n hx hb d_B_swapWithNext_60 rfl (lv_at hl 3 rfl) ?_
    refine lv_iconst (v := 4) hx hb d_B_swapWithNext_61 (by decide) ?_
    refine lv_iadd hx hb d_B_swapWithNext_62 ?_
    obtain ⟨g_3, h⟩ := gd_some h
    refine va_iald hx hb hK hP 1 0 rfl rfl (inb_in g_3) d_B_swapWithNext_63 ?_
    obtain ⟨g_4, h⟩ := gd_some h
    refine va_iast hx hb hK hP hD hS 1 0 rfl rfl (inb_in g_4) d_B_swapWithNext_64 (fun H locs hP hD hS => ?_)
    have hP : va_P D classes (wB a k (upd lab x3.toNatClampNeg (lab (x3 + (4 : Int32)).toNatClampNeg)) sg cc ci od sd go ta we oe fp ro sp qr qs) H := hP
    have hD : va_D A (wB a k (upd lab x3.toNatClampNeg (lab (x3 + (4 : Int32)).toNatClampNeg)) sg cc ci od sd go ta we oe fp ro sp qr qs) := hD
    refine lv_aload_n hx hb d_B_swapWithNext_65 rfl (lv_at hl 1 rfl) ?_
    refine va_get (D := D) (ci := 0) (v := .ref (a 1)) (C := R_B) (T := F_B) (N := 11) hx hb ht iC_B hown hK hP 0 rfl rfl 0 (by decide) (ht _ ix_43) (fun _ h9 => h9) rfl d_B_swapWithNext_66 ?_
    refine lv_iload_n hx hb d_B_swapWithNext_69 rfl (lv_at hl 3 rfl) ?_
    refine lv_iconst (v := 4) hx hb d_B_swapWithNext_70 (by decide) ?_
    refine lv_iadd hx hb d_B_swapWithNext_71 ?_
    refine lv_iload hx hb d_B_swapWithNext_72 (lv_at hl 0 rfl) ?_
    obtain ⟨g_5, h⟩ := gd_some h
    refine va_iast hx hb hK hP hD hS 1 0 rfl rfl (inb_in g_5) d_B_swapWithNext_74 (fun H locs hP hD hS => ?_)
    have hP : va_P D classes (wB a k (upd (upd lab x3.toNatClampNeg (lab (x3 + (4 : Int32)).toNatClampNeg)) (x3 + (4 : Int32)).toNatClampNeg (lab x3.toNatClampNeg)) sg cc ci od sd go ta we oe fp ro sp qr qs) H := hP
    have hD : va_D A (wB a k (upd (upd lab x3.toNatClampNeg (lab (x3 + (4 : Int32)).toNatClampNeg)) (x3 + (4 : Int32)).toNatClampNeg (lab x3.toNatClampNeg)) sg cc ci od sd go ta we oe fp ro sp qr qs) := hD
    refine lv_iinc (v := x3 + 1) (lv' := [(3, .int (x3 + 1)), (4, .int (lab x3.toNatClampNeg)), (0, .ref (a 0)), (1, .int x1)]) hx hb d_B_swapWithNext_75 hl (k := 3) rfl rfl (by decide) rfl (fun ls hl => ?_)
    refine lv_goto (tgt := 34) hx hb d_B_swapWithNext_78 (by decide) ?_
    exact hrec34 _ _ _ _ _ h _ _ _ hP hD hS (lv_sub hl [2, 3, 0] rfl)
theorem k_B_swapWithNext_34_L {p : Program} {l : Launch} {e : Env} {s : State} {m : MethodId} {args : Array Value} {below : List Frame} {meth : Method} {c : Code} {D : va_G} {A : Nat → Prop} {a : Nat → Nat} {k : Nat → ClassId} {cc : Int32} {ci : Int32} {od : Nat → Int32} {sd : Nat → Int32} {go : Nat → Int32} {ta : Nat → Int32} {we : Int32} {oe : Nat → Int32} {fp : Nat → Int32} {ro : Nat → Int64} {sp : Nat → Int64} {qr : Nat} {qs : Nat} (C : cx D [(k 1, .int), (k 2, .int), (k 3, .int), (k 4, .int), (k 5, .boolean), (k 6, .int), (k 8, .int), (k 9, .int), (k 11, .long)] R_B b_B_swapWithNext 5 none A p s m args meth c) : ∀ n : Nat, H_B_swapWithNext_34 p l e s m args below meth c D A a k cc ci od sd go ta we oe fp ro sp qr qs (L_B_swapWithNext_34 n)
  | 0 => fun _ _ _ _ _ h => nomatch h
  | n + 1 => k_B_swapWithNext_34 C (k_B_swapWithNext_34_L C n)
set_option maxHeartbeats 4000000 in
set_option maxRecDepth 100000 in
theorem k_B_swapWithNext_0 {p : Program} {l : Launch} {e : Env} {s : State} {m : MethodId} {args : Array Value} {below : List Frame} {meth : Method} {c : Code} {D : va_G} {A : Nat → Prop} {a : Nat → Nat} {k : Nat → ClassId} {cc : Int32} {ci : Int32} {od : Nat → Int32} {sd : Nat → Int32} {go : Nat → Int32} {ta : Nat → Int32} {we : Int32} {oe : Nat → Int32} {fp : Nat → Int32} {ro : Nat → Int64} {sp : Nat → Int64} {qr : Nat} {qs : Nat} (C : cx D [(k 1, .int), (k 2, .int), (k 3, .int), (k 4, .int), (k 5, .boolean), (k 6, .int), (k 8, .int), (k 9, .int), (k 11, .long)] R_B b_B_swapWithNext 5 none A p s m args meth c) : H_B_swapWithNext_0 p l e s m args below meth c D A a k cc ci od sd go ta we oe fp ro sp qr qs (J_B_swapWithNext_0) := by
  obtain ⟨hx, hb, hr, hml, hown, ht, hlk, hA, hK⟩ := id C
  intro x1 lab sg r h H locs ls hP hD hS hl
  unfold J_B_swapWithNext_0 at h
  refine lv_aload_n hx hb d_B_swapWithNext_0 rfl (lv_at hl 0 rfl) ?_
  refine va_get (D := D) (ci := 0) (v := .ref (a 2)) (C := R_B) (T := F_B) (N := 11) hx hb ht iC_B hown hK hP 0 rfl rfl 1 (by decide) (ht _ ix_53) (fun _ h9 => h9) rfl d_B_swapWithNext_1 ?_
  refine lv_iload_n hx hb d_B_swapWithNext_4 rfl (lv_at hl 1 rfl) ?_
  obtain ⟨g_1, h⟩ := gd_some h
  refine va_iald hx hb hK hP 2 1 rfl rfl (inb_in g_1) d_B_swapWithNext_5 ?_
  refine lv_istore_n (lv' := [(2, .int (sg x1.toNatClampNeg)), (0, .ref (a 0)), (1, .int x1)]) hx hb d_B_swapWithNext_6 rfl hl (by decide) rfl (fun ls hl => ?_)
  refine lv_aload_n hx hb d_B_swapWithNext_7 rfl (lv_at hl 1 rfl) ?_
  refine va_get (D := D) (ci := 0) (v := .ref (a 2)) (C := R_B) (T := F_B) (N := 11) hx hb ht iC_B hown hK hP 0 rfl rfl 1 (by decide) (ht _ ix_53) (fun _ h9 => h9) rfl d_B_swapWithNext_8 ?_
  refine lv_iload_n hx hb d_B_swapWithNext_11 rfl (lv_at hl 2 rfl) ?_
  refine lv_aload_n hx hb d_B_swapWithNext_12 rfl (lv_at hl 1 rfl) ?_
  refine va_get (D := D) (ci := 0) (v := .ref (a 2)) (C := R_B) (T := F_B) (N := 11) hx hb ht iC_B hown hK hP 0 rfl rfl 1 (by decide) (ht _ ix_53) (fun _ h9 => h9) rfl d_B_swapWithNext_13 ?_
  refine lv_iload_n hx hb d_B_swapWithNext_16 rfl (lv_at hl 2 rfl) ?_
  refine lv_iconst (v := 1) hx hb d_B_swapWithNext_17 (by decide) ?_
  refine lv_iadd hx hb d_B_swapWithNext_18 ?_
  obtain ⟨g_2, h⟩ := gd_some h
  refine va_iald hx hb hK hP 2 1 rfl rfl (inb_in g_2) d_B_swapWithNext_19 ?_
  obtain ⟨g_3, h⟩ := gd_some h
  refine va_iast hx hb hK hP hD hS 2 1 rfl rfl (inb_in g_3) d_B_swapWithNext_20 (fun H locs hP hD hS => ?_)
  have hP : va_P D classes (wB a k lab (upd sg x1.toNatClampNeg (sg (x1 + (1 : Int32)).toNatClampNeg)) cc ci od sd go ta we oe fp ro sp qr qs) H := hP
  have hD : va_D A (wB a k lab (upd sg x1.toNatClampNeg (sg (x1 + (1 : Int32)).toNatClampNeg)) cc ci od sd go ta we oe fp ro sp qr qs) := hD
  refine lv_aload_n hx hb d_B_swapWithNext_21 rfl (lv_at hl 1 rfl) ?_
  refine va_get (D := D) (ci := 0) (v := .ref (a 2)) (C := R_B) (T := F_B) (N := 11) hx hb ht iC_B hown hK hP 0 rfl rfl 1 (by decide) (ht _ ix_53) (fun _ h9 => h9) rfl d_B_swapWithNext_22 ?_
  refine lv_iload_n hx hb d_B_swapWithNext_25 rfl (lv_at hl 2 rfl) ?_
  refine lv_iconst (v := 1) hx hb d_B_swapWithNext_26 (by decide) ?_
  refine lv_iadd hx hb d_B_swapWithNext_27 ?_
  refine lv_iload_n hx hb d_B_swapWithNext_28 rfl (lv_at hl 0 rfl) ?_
  obtain ⟨g_4, h⟩ := gd_some h
  refine va_iast hx hb hK hP hD hS 2 1 rfl rfl (inb_in g_4) d_B_swapWithNext_29 (fun H locs hP hD hS => ?_)
  have hP : va_P D classes (wB a k lab (upd (upd sg x1.toNatClampNeg (sg (x1 + (1 : Int32)).toNatClampNeg)) (x1 + (1 : Int32)).toNatClampNeg (sg x1.toNatClampNeg)) cc ci od sd go ta we oe fp ro sp qr qs) H := hP
  have hD : va_D A (wB a k lab (upd (upd sg x1.toNatClampNeg (sg (x1 + (1 : Int32)).toNatClampNeg)) (x1 + (1 : Int32)).toNatClampNeg (sg x1.toNatClampNeg)) cc ci od sd go ta we oe fp ro sp qr qs) := hD
  refine lv_iconst (v := 4) hx hb d_B_swapWithNext_30 (by decide) ?_
  refine lv_iload_n hx hb d_B_swapWithNext_31 rfl (lv_at hl 2 rfl) ?_
  refine lv_imul hx hb d_B_swapWithNext_32 ?_
  refine lv_istore_n (lv' := [(3, .int ((4 : Int32) * x1)), (2, .int (sg x1.toNatClampNeg)), (0, .ref (a 0)), (1, .int x1)]) hx hb d_B_swapWithNext_33 rfl hl (by decide) rfl (fun ls hl => ?_)
  exact (k_B_swapWithNext_34_L C fu) _ _ _ _ _ h _ _ _ hP hD hS (lv_sub hl [2, 3, 0] rfl)
set_option maxRecDepth 20000 in
theorem c_B_swapWithNext (l : Launch) (D : va_G) (a : Nat → Nat) (k : Nat → ClassId) (sz : Nat) (x1 : Int32) (lab : Nat → Int32) (sg : Nat → Int32) (cc : Int32) (ci : Int32) (od : Nat → Int32) (sd : Nat → Int32) (go : Nat → Int32) (ta : Nat → Int32) (we : Int32) (oe : Nat → Int32) (fp : Nat → Int32) (ro : Nat → Int64) (sp : Nat → Int64) (qr : Nat) (qs : Nat) (r : (Nat → Int32) × (Nat → Int32)) (h : F_B_swapWithNext x1 lab sg = some r) : Met l y_B_swapWithNext (Cond.code y_B_swapWithNext b_B_swapWithNext 5 none :: lw_g) (rm_B_swapWithNext) (va_Pc [.ref (a 0), .int x1] (pcW D [(k 1, .int), (k 2, .int), (k 3, .int), (k 4, .int), (k 5, .boolean), (k 6, .int), (k 8, .int), (k 9, .int), (k 11, .long)] (wB a k lab sg cc ci od sd go ta we oe fp ro sp qr qs) sz)) (qc_B_swapWithNext D (va_A (wB a k lab sg cc ci od sd go ta we oe fp ro sp qr qs) sz) a k cc ci od sd go ta we oe fp ro sp qr qs r) 0 0 (va_A (wB a k lab sg cc ci od sd go ta we oe fp ro sp qr qs) sz) := by
  refine Met.ofW (cc := b_B_swapWithNext) (maxL := 5) (ret := none) (by decide) rfl ?_
  intro p e s m args below meth c s₁ B hml hv
  obtain ⟨rfl, hsz, hP, hK, hD0⟩ := hv
  have hts := atoms_spec (ws := Cond.code y_B_swapWithNext b_B_swapWithNext 5 none :: lw_g) B.pre
  subst hsz
  have hD := hD0.self (sz := s.heap.size)
  have hl := lv_entry ([.ref (a 0), .int x1]) (n := 5) (Nat.le_of_ble_eq_true rfl)
  rw [lg_entry_eq]
  generalize (lg_sl ([.ref (a 0), .int x1]) ++ List.replicate (5 - (lg_sl ([.ref (a 0), .int x1])).length) Slot.unset).toArray = ls at hl ⊢
  exact k_B_swapWithNext_0 ⟨B.exec, B.bytes, B.returns, hml, findClass_of_methodNamed B.named, fun w hw => hts w (List.mem_cons_of_mem _ hw), B.notSynchronized, fun q h => Or.inr h, hK⟩ _ _ _ _ h _ _ _ hP hD va_S.rf hl

def rm_B_carry : Room := { frames := 1, cells := 0, slots := 0, locals := 24 }
def qc_B_carry (D : va_G) (A : Nat → Prop) (a : Nat → Nat) (k : Nat → ClassId) (cc : Int32) (ci : Int32) (od : Nat → Int32) (sd : Nat → Int32) (go : Nat → Int32) (ta : Nat → Int32) (we : Int32) (oe : Nat → Int32) (fp : Nat → Int32) (ro : Nat → Int64) (sp : Nat → Int64) (qr : Nat) (qs : Nat) (r : (Nat → Int32) × (Nat → Int32)) : Array Value → State → Outcome → State → Prop := va_Qv (fun (_ : Unit) => True) (poW D [(k 1, .int), (k 2, .int), (k 3, .int), (k 4, .int), (k 5, .boolean), (k 6, .int), (k 8, .int), (k 9, .int), (k 11, .long)] (wB a k r.1 r.2 cc ci od sd go ta we oe fp ro sp qr qs) A) A
def J_B_carry_20 (rec20 : Int32 → Int32 → (Nat → Int32) → (Nat → Int32) → Option ((Nat → Int32) × (Nat → Int32))) (x2 : Int32) (x3 : Int32) (lab : Nat → Int32) (sg : Nat → Int32) : Option ((Nat → Int32) × (Nat → Int32)) :=
  (if x3 ≤ x2 then some (lab, sg) else (Option.bind (F_B_swapWithNext (x3 - (1 : Int32)) lab sg) (fun v_2 => rec20 x2 (x3 + (-1)) v_2.1 v_2.2)))
def L_B_carry_20 : Nat → Int32 → Int32 → (Nat → Int32) → (Nat → Int32) → Option ((Nat → Int32) × (Nat → Int32))
  | 0 => fun _ _ _ _ => none
  | n + 1 => J_B_carry_20 (L_B_carry_20 n)
def J_B_carry_2 (rec2 : Int32 → Int32 → Int32 → (Nat → Int32) → (Nat → Int32) → Option ((Nat → Int32) × (Nat → Int32))) (x1 : Int32) (x2 : Int32) (x3 : Int32) (lab : Nat → Int32) (sg : Nat → Int32) : Option ((Nat → Int32) × (Nat → Int32)) :=
  (if x2 ≤ x3 then L_B_carry_20 fu x2 x1 lab sg else (Option.bind (F_B_swapWithNext x3 lab sg) (fun v_2 => rec2 x1 x2 (x3 + 1) v_2.1 v_2.2)))
def L_B_carry_2 : Nat → Int32 → Int32 → Int32 → (Nat → Int32) → (Nat → Int32) → Option ((Nat → Int32) × (Nat → Int32))
  | 0 => fun _ _ _ _ _ => none
  | n + 1 => J_B_carry_2 (L_B_carry_2 n)
def J_B_carry_0 (x1 : Int32) (x2 : Int32) (lab : Nat → Int32) (sg : Nat → Int32) : Option ((Nat → Int32) × (Nat → Int32)) :=
  L_B_carry_2 fu x1 x2 x1 lab sg
def F_B_carry (x1 : Int32) (x2 : Int32) (lab : Nat → Int32) (sg : Nat → Int32) : Option ((Nat → Int32) × (Nat → Int32)) := J_B_carry_0 x1 x2 lab sg
def H_B_carry_20 (p : Program) (l : Launch) (e : Env) (s : State) (m : MethodId) (args : Array Value) (below : List Frame) (meth : Method) (c : Code) (D : va_G) (A : Nat → Prop) (a : Nat → Nat) (k : Nat → ClassId) (cc : Int32) (ci : Int32) (od : Nat → Int32) (sd : Nat → Int32) (go : Nat → Int32) (ta : Nat → Int32) (we : Int32) (oe : Nat → Int32) (fp : Nat → Int32) (ro : Nat → Int64) (sp : Nat → Int64) (qr : Nat) (qs : Nat) (f : Int32 → Int32 → (Nat → Int32) → (Nat → Int32) → Option ((Nat → Int32) × (Nat → Int32))) : Prop := ∀ (x2 : Int32) (x3 : Int32) (lab : Nat → Int32) (sg : Nat → Int32) (r : (Nat → Int32) × (Nat → Int32)), f x2 x3 lab sg = some r → ∀ (H : Heap) (locs : List Loc) (ls : Array Slot), va_P D classes (wB a k lab sg cc ci od sd go ta we oe fp ro sp qr qs) H → va_D A (wB a k lab sg cc ci od sd go ta we oe fp ro sp qr qs) → va_S A s.heap H locs → lv_has ls 4 [(0, .ref (a 0)), (2, .int x2), (3, .int x3)] → W p l e (rm_B_carry) s m args below meth c H locs 0 0 (MQ below (qc_B_carry D A a k cc ci od sd go ta we oe fp ro sp qr qs r) args s 0 0 A) (F0 m 20 ls [])
def H_B_carry_2 (p : Program) (l : Launch) (e : Env) (s : State) (m : MethodId) (args : Array Value) (below : List Frame) (meth : Method) (c : Code) (D : va_G) (A : Nat → Prop) (a : Nat → Nat) (k : Nat → ClassId) (cc : Int32) (ci : Int32) (od : Nat → Int32) (sd : Nat → Int32) (go : Nat → Int32) (ta : Nat → Int32) (we : Int32) (oe : Nat → Int32) (fp : Nat → Int32) (ro : Nat → Int64) (sp : Nat → Int64) (qr : Nat) (qs : Nat) (f : Int32 → Int32 → Int32 → (Nat → Int32) → (Nat → Int32) → Option ((Nat → Int32) × (Nat → Int32))) : Prop := ∀ (x1 : Int32) (x2 : Int32) (x3 : Int32) (lab : Nat → Int32) (sg : Nat → Int32) (r : (Nat → Int32) × (Nat → Int32)), f x1 x2 x3 lab sg = some r → ∀ (H : Heap) (locs : List Loc) (ls : Array Slot), va_P D classes (wB a k lab sg cc ci od sd go ta we oe fp ro sp qr qs) H → va_D A (wB a k lab sg cc ci od sd go ta we oe fp ro sp qr qs) → va_S A s.heap H locs → lv_has ls 4 [(0, .ref (a 0)), (1, .int x1), (2, .int x2), (3, .int x3)] → W p l e (rm_B_carry) s m args below meth c H locs 0 0 (MQ below (qc_B_carry D A a k cc ci od sd go ta we oe fp ro sp qr qs r) args s 0 0 A) (F0 m 2 ls [])
def H_B_carry_0 (p : Program) (l : Launch) (e : Env) (s : State) (m : MethodId) (args : Array Value) (below : List Frame) (meth : Method) (c : Code) (D : va_G) (A : Nat → Prop) (a : Nat → Nat) (k : Nat → ClassId) (cc : Int32) (ci : Int32) (od : Nat → Int32) (sd : Nat → Int32) (go : Nat → Int32) (ta : Nat → Int32) (we : Int32) (oe : Nat → Int32) (fp : Nat → Int32) (ro : Nat → Int64) (sp : Nat → Int64) (qr : Nat) (qs : Nat) (f : Int32 → Int32 → (Nat → Int32) → (Nat → Int32) → Option ((Nat → Int32) × (Nat → Int32))) : Prop := ∀ (x1 : Int32) (x2 : Int32) (lab : Nat → Int32) (sg : Nat → Int32) (r : (Nat → Int32) × (Nat → Int32)), f x1 x2 lab sg = some r → ∀ (H : Heap) (locs : List Loc) (ls : Array Slot), va_P D classes (wB a k lab sg cc ci od sd go ta we oe fp ro sp qr qs) H → va_D A (wB a k lab sg cc ci od sd go ta we oe fp ro sp qr qs) → va_S A s.heap H locs → lv_has ls 4 [(0, .ref (a 0)), (1, .int x1), (2, .int x2)] → W p l e (rm_B_carry) s m args below meth c H locs 0 0 (MQ below (qc_B_carry D A a k cc ci od sd go ta we oe fp ro sp qr qs r) args s 0 0 A) (F0 m 0 ls [])
set_option maxHeartbeats 4000000 in
set_option maxRecDepth 100000 in
theorem k_B_carry_20 {p : Program} {l : Launch} {e : Env} {s : State} {m : MethodId} {args : Array Value} {below : List Frame} {meth : Method} {c : Code} {D : va_G} {A : Nat → Prop} {a : Nat → Nat} {k : Nat → ClassId} {cc : Int32} {ci : Int32} {od : Nat → Int32} {sd : Nat → Int32} {go : Nat → Int32} {ta : Nat → Int32} {we : Int32} {oe : Nat → Int32} {fp : Nat → Int32} {ro : Nat → Int64} {sp : Nat → Int64} {qr : Nat} {qs : Nat} {rec20 : Int32 → Int32 → (Nat → Int32) → (Nat → Int32) → Option ((Nat → Int32) × (Nat → Int32))} (C : cx D [(k 1, .int), (k 2, .int), (k 3, .int), (k 4, .int), (k 5, .boolean), (k 6, .int), (k 8, .int), (k 9, .int), (k 11, .long)] R_B b_B_carry 4 none A p s m args meth c) (hrec20 : H_B_carry_20 p l e s m args below meth c D A a k cc ci od sd go ta we oe fp ro sp qr qs rec20) : H_B_carry_20 p l e s m args below meth c D A a k cc ci od sd go ta we oe fp ro sp qr qs (J_B_carry_20 rec20) := by
  obtain ⟨hx, hb, hr, hml, hown, ht, hlk, hA, hK⟩ := id C
  intro x2 x3 lab sg r h H locs ls hP hD hS hl
  unfold J_B_carry_20 at h
  refine lv_iload_n hx hb d_B_carry_20 rfl (lv_at hl 2 rfl) ?_
  refine lv_iload_n hx hb d_B_carry_21 rfl (lv_at hl 1 rfl) ?_
  refine lv_icmp_le (tgt := 38) hx hb d_B_carry_22 (by decide) (fun c_1 => ?_) (fun c_1 => ?_)
  · have h := ite_T c_1 h
    cases h
    exact W.vret hx hb hr (fun t ht hW => ⟨⟨(), rfl, trivial, by rw [ht]; exact hP, va_K.moved hW.alike hK, hD⟩, hS.F ht⟩) hS.2.2 d_B_carry_38 hlk
  · have h := ite_F c_1 h
    refine lv_aload_n hx hb d_B_carry_25 rfl (lv_at hl 0 rfl) ?_
    refine lv_iload_n hx hb d_B_carry_26 rfl (lv_at hl 2 rfl) ?_
    refine lv_iconst (v := 1) hx hb d_B_carry_27 (by decide) ?_
    refine lv_isub hx hb d_B_carry_28 ?_
    obtain ⟨v_2, e_2, h⟩ := bd_some h
    refine go_Vv (As := [.int (x3 - (1 : Int32))]) (rest := []) (wc := (wB a k lab sg cc ci od sd go ta we oe fp ro sp qr qs)) (wr := []) (w1 := (wB a k v_2.1 v_2.2 cc ci od sd go ta we oe fp ro sp qr qs)) (w2 := (wB a k v_2.1 v_2.2 cc ci od sd go ta we oe fp ro sp qr qs)) (tc := [(k 1, .int), (k 2, .int), (k 3, .int), (k 4, .int), (k 5, .boolean), (k 6, .int), (k 8, .int), (k 9, .int), (k 11, .long)]) hx hb hml hown ht (c_B_swapWithNext l D a k H.size (x3 - (1 : Int32)) lab sg cc ci od sd go ta we oe fp ro sp qr qs v_2 e_2) g_B_145 ⟨rfl, rfl⟩ (n := 1) (by decide +kernel) ⟨(Nat.le_of_ble_eq_true rfl), (Nat.le_of_ble_eq_true rfl)⟩ hP hD hK hS hA ⟨Nat.zero_le _, Nat.zero_le _⟩ [0, 1, 2, 3, 4, 5, 6, 7, 8, 9, 10, 11, 12] [] [0, 1, 2, 3, 4, 5, 6, 7, 8] [0, 1, 2, 3, 4, 5, 6, 7, 8, 9, 10, 11, 12] rfl rfl rfl rfl (by decide) (by decide) (by decide) rfl (by decide) 0 rfl rfl rfl rfl rfl hl.1 (Nat.le_of_ble_eq_true rfl) d_B_carry_29 (fun H locs hP hD hS => ?_)
    refine lv_iinc (v := x3 + (-1)) (lv' := [(3, .int (x3 + (-1))), (0, .ref (a 0)), (2, .int x2)]) hx hb d_B_carry_32 hl (k := 2) rfl rfl (by decide) rfl (fun ls hl => ?_)
    refine lv_goto (tgt := 20) hx hb d_B_carry_35 (by decide) ?_
    exact hrec20 _ _ _ _ _ h _ _ _ hP hD hS (lv_sub hl [1, 2, 0] rfl)
theorem k_B_carry_20_L {p : Program} {l : Launch} {e : Env} {s : State} {m : MethodId} {args : Array Value} {below : List Frame} {meth : Method} {c : Code} {D : va_G} {A : Nat → Prop} {a : Nat → Nat} {k : Nat → ClassId} {cc : Int32} {ci : Int32} {od : Nat → Int32} {sd : Nat → Int32} {go : Nat → Int32} {ta : Nat → Int32} {we : Int32} {oe : Nat → Int32} {fp : Nat → Int32} {ro : Nat → Int64} {sp : Nat → Int64} {qr : Nat} {qs : Nat} (C : cx D [(k 1, .int), (k 2, .int), (k 3, .int), (k 4, .int), (k 5, .boolean), (k 6, .int), (k 8, .int), (k 9, .int), (k 11, .long)] R_B b_B_carry 4 none A p s m args meth c) : ∀ n : Nat, H_B_carry_20 p l e s m args below meth c D A a k cc ci od sd go ta we oe fp ro sp qr qs (L_B_carry_20 n)
  | 0 => fun _ _ _ _ _ h => nomatch h
  | n + 1 => k_B_carry_20 C (k_B_carry_20_L C n)
set_option maxHeartbeats 4000000 in
set_option maxRecDepth 100000 in
theorem k_B_carry_2 {p : Program} {l : Launch} {e : Env} {s : State} {m : MethodId} {args : Array Value} {below : List Frame} {meth : Method} {c : Code} {D : va_G} {A : Nat → Prop} {a : Nat → Nat} {k : Nat → ClassId} {cc : Int32} {ci : Int32} {od : Nat → Int32} {sd : Nat → Int32} {go : Nat → Int32} {ta : Nat → Int32} {we : Int32} {oe : Nat → Int32} {fp : Nat → Int32} {ro : Nat → Int64} {sp : Nat → Int64} {qr : Nat} {qs : Nat} {rec2 : Int32 → Int32 → Int32 → (Nat → Int32) → (Nat → Int32) → Option ((Nat → Int32) × (Nat → Int32))} (C : cx D [(k 1, .int), (k 2, .int), (k 3, .int), (k 4, .int), (k 5, .boolean), (k 6, .int), (k 8, .int), (k 9, .int), (k 11, .long)] R_B b_B_carry 4 none A p s m args meth c) (hrec2 : H_B_carry_2 p l e s m args below meth c D A a k cc ci od sd go ta we oe fp ro sp qr qs rec2) : H_B_carry_2 p l e s m args below meth c D A a k cc ci od sd go ta we oe fp ro sp qr qs (J_B_carry_2 rec2) := by
  obtain ⟨hx, hb, hr, hml, hown, ht, hlk, hA, hK⟩ := id C
  intro x1 x2 x3 lab sg r h H locs ls hP hD hS hl
  unfold J_B_carry_2 at h
  refine lv_iload_n hx hb d_B_carry_2 rfl (lv_at hl 3 rfl) ?_
  refine lv_iload_n hx hb d_B_carry_3 rfl (lv_at hl 2 rfl) ?_
  refine lv_icmp_ge (tgt := 18) hx hb d_B_carry_4 (by decide) (fun c_1 => ?_) (fun c_1 => ?_)
  · have h := ite_T c_1 h
    refine lv_iload_n hx hb d_B_carry_18 rfl (lv_at hl 1 rfl) ?_
    refine lv_istore_n (lv' := [(3, .int x1), (0, .ref (a 0)), (1, .int x1), (2, .int x2)]) hx hb d_B_carry_19 rfl hl (by decide) rfl (fun ls hl => ?_)
    exact (k_B_carry_20_L C fu) _ _ _ _ _ h _ _ _ hP hD hS (lv_sub hl [1, 3, 0] rfl)
  · have h := ite_F c_1 h
    refine lv_aload_n hx hb d_B_carry_7 rfl (lv_at hl 0 rfl) ?_
    refine lv_iload_n hx hb d_B_carry_8 rfl (lv_at hl 3 rfl) ?_
    obtain ⟨v_2, e_2, h⟩ := bd_some h
    refine go_Vv (As := [.int x3]) (rest := []) (wc := (wB a k lab sg cc ci od sd go ta we oe fp ro sp qr qs)) (wr := []) (w1 := (wB a k v_2.1 v_2.2 cc ci od sd go ta we oe fp ro sp qr qs)) (w2 := (wB a k v_2.1 v_2.2 cc ci od sd go ta we oe fp ro sp qr qs)) (tc := [(k 1, .int), (k 2, .int), (k 3, .int), (k 4, .int), (k 5, .boolean), (k 6, .int), (k 8, .int), (k 9, .int), (k 11, .long)]) hx hb hml hown ht (c_B_swapWithNext l D a k H.size x3 lab sg cc ci od sd go ta we oe fp ro sp qr qs v_2 e_2) g_B_145 ⟨rfl, rfl⟩ (n := 1) (by decide +kernel) ⟨(Nat.le_of_ble_eq_true rfl), (Nat.le_of_ble_eq_true rfl)⟩ hP hD hK hS hA ⟨Nat.zero_le _, Nat.zero_le _⟩ [0, 1, 2, 3, 4, 5, 6, 7, 8, 9, 10, 11, 12] [] [0, 1, 2, 3, 4, 5, 6, 7, 8] [0, 1, 2, 3, 4, 5, 6, 7, 8, 9, 10, 11, 12] rfl rfl rfl rfl (by decide) (by decide) (by decide) rfl (by decide) 0 rfl rfl rfl rfl rfl hl.1 (Nat.le_of_ble_eq_true rfl) d_B_carry_9 (fun H locs hP hD hS => ?_)
    refine lv_iinc (v := x3 + 1) (lv' := [(3, .int (x3 + 1)), (0, .ref (a 0)), (1, .int x1), (2, .int x2)]) hx hb d_B_carry_12 hl (k := 3) rfl rfl (by decide) rfl (fun ls hl => ?_)
    refine lv_goto (tgt := 2) hx hb d_B_carry_15 (by decide) ?_
    exact hrec2 _ _ _ _ _ _ h _ _ _ hP hD hS (lv_sub hl [1, 2, 3, 0] rfl)
theorem k_B_carry_2_L {p : Program} {l : Launch} {e : Env} {s : State} {m : MethodId} {args : Array Value} {below : List Frame} {meth : Method} {c : Code} {D : va_G} {A : Nat → Prop} {a : Nat → Nat} {k : Nat → ClassId} {cc : Int32} {ci : Int32} {od : Nat → Int32} {sd : Nat → Int32} {go : Nat → Int32} {ta : Nat → Int32} {we : Int32} {oe : Nat → Int32} {fp : Nat → Int32} {ro : Nat → Int64} {sp : Nat → Int64} {qr : Nat} {qs : Nat} (C : cx D [(k 1, .int), (k 2, .int), (k 3, .int), (k 4, .int), (k 5, .boolean), (k 6, .int), (k 8, .int), (k 9, .int), (k 11, .long)] R_B b_B_carry 4 none A p s m args meth c) : ∀ n : Nat, H_B_carry_2 p l e s m args below meth c D A a k cc ci od sd go ta we oe fp ro sp qr qs (L_B_carry_2 n)
  | 0 => fun _ _ _ _ _ _ h => nomatch h
  | n + 1 => k_B_carry_2 C (k_B_carry_2_L C n)
set_option maxHeartbeats 4000000 in
set_option maxRecDepth 100000 in
theorem k_B_carry_0 {p : Program} {l : Launch} {e : Env} {s : State} {m : MethodId} {args : Array Value} {below : List Frame} {meth : Method} {c : Code} {D : va_G} {A : Nat → Prop} {a : Nat → Nat} {k : Nat → ClassId} {cc : Int32} {ci : Int32} {od : Nat → Int32} {sd : Nat → Int32} {go : Nat → Int32} {ta : Nat → Int32} {we : Int32} {oe : Nat → Int32} {fp : Nat → Int32} {ro : Nat → Int64} {sp : Nat → Int64} {qr : Nat} {qs : Nat} (C : cx D [(k 1, .int), (k 2, .int), (k 3, .int), (k 4, .int), (k 5, .boolean), (k 6, .int), (k 8, .int), (k 9, .int), (k 11, .long)] R_B b_B_carry 4 none A p s m args meth c) : H_B_carry_0 p l e s m args below meth c D A a k cc ci od sd go ta we oe fp ro sp qr qs (J_B_carry_0) := by
  obtain ⟨hx, hb, hr, hml, hown, ht, hlk, hA, hK⟩ := id C
  intro x1 x2 lab sg r h H locs ls hP hD hS hl
  unfold J_B_carry_0 at h
  refine lv_iload_n hx hb d_B_carry_0 rfl (lv_at hl 1 rfl) ?_
  refine lv_istore_n (lv' := [(3, .int x1), (0, .ref (a 0)), (1, .int x1), (2, .int x2)]) hx hb d_B_carry_1 rfl hl (by decide) rfl (fun ls hl => ?_)
  exact (k_B_carry_2_L C fu) _ _ _ _ _ _ h _ _ _ hP hD hS (lv_sub hl [1, 2, 3, 0] rfl)
set_option maxRecDepth 20000 in
theorem c_B_carry (l : Launch) (D : va_G) (a : Nat → Nat) (k : Nat → ClassId) (sz : Nat) (x1 : Int32) (x2 : Int32) (lab : Nat → Int32) (sg : Nat → Int32) (cc : Int32) (ci : Int32) (od : Nat → Int32) (sd : Nat → Int32) (go : Nat → Int32) (ta : Nat → Int32) (we : Int32) (oe : Nat → Int32) (fp : Nat → Int32) (ro : Nat → Int64) (sp : Nat → Int64) (qr : Nat) (qs : Nat) (r : (Nat → Int32) × (Nat → Int32)) (h : F_B_carry x1 x2 lab sg = some r) : Met l y_B_carry (Cond.code y_B_carry b_B_carry 4 none :: lw_g) (rm_B_carry) (va_Pc [.ref (a 0), .int x1, .int x2] (pcW D [(k 1, .int), (k 2, .int), (k 3, .int), (k 4, .int), (k 5, .boolean), (k 6, .int), (k 8, .int), (k 9, .int), (k 11, .long)] (wB a k lab sg cc ci od sd go ta we oe fp ro sp qr qs) sz)) (qc_B_carry D (va_A (wB a k lab sg cc ci od sd go ta we oe fp ro sp qr qs) sz) a k cc ci od sd go ta we oe fp ro sp qr qs r) 0 0 (va_A (wB a k lab sg cc ci od sd go ta we oe fp ro sp qr qs) sz) := by
  refine Met.ofW (cc := b_B_carry) (maxL := 4) (ret := none) (by decide) rfl ?_
  intro p e s m args below meth c s₁ B hml hv
  obtain ⟨rfl, hsz, hP, hK, hD0⟩ := hv
  have hts := atoms_spec (ws := Cond.code y_B_carry b_B_carry 4 none :: lw_g) B.pre
  subst hsz
  have hD := hD0.self (sz := s.heap.size)
  have hl := lv_entry ([.ref (a 0), .int x1, .int x2]) (n := 4) (Nat.le_of_ble_eq_true rfl)
  rw [lg_entry_eq]
  generalize (lg_sl ([.ref (a 0), .int x1, .int x2]) ++ List.replicate (4 - (lg_sl ([.ref (a 0), .int x1, .int x2])).length) Slot.unset).toArray = ls at hl ⊢
  exact k_B_carry_0 ⟨B.exec, B.bytes, B.returns, hml, findClass_of_methodNamed B.named, fun w hw => hts w (List.mem_cons_of_mem _ hw), B.notSynchronized, fun q h => Or.inr h, hK⟩ _ _ _ _ _ h _ _ _ hP hD va_S.rf hl
