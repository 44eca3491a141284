def rm_B_bracket : Room := { frames := 17, cells := 0, slots := 0, locals := 426 }
def qc_B_bracket (D : va_G) (A : Nat → Prop) (a : Nat → Nat) (k : Nat → ClassId) (lab : Nat → Int32) (sg : Nat → Int32) (cc : Int32) (ci : Int32) (od : Nat → Int32) (go : Nat → Int32) (r : Int64 × (Nat → Int32) × (Nat → Int32) × Int32 × (Nat → Int32) × (Nat → Int32) × (Nat → Int64) × (Nat → Int64) × Nat × Nat) : Array Value → State → Outcome → State → Prop := va_Ql (fun (r1 : Int64) (_ : Unit) => r1 = r.1) (poW D [(k 1, .int), (k 2, .int), (k 3, .int), (k 4, .int), (k 5, .boolean), (k 6, .int), (k 8, .int), (k 9, .int), (k 11, .long)] (wB a k lab sg cc ci od r.2.1 go r.2.2.1 r.2.2.2.1 r.2.2.2.2.1 r.2.2.2.2.2.1 r.2.2.2.2.2.2.1 r.2.2.2.2.2.2.2.1 r.2.2.2.2.2.2.2.2.1 r.2.2.2.2.2.2.2.2.2) A) A
def J_B_bracket_0 (x1 : Int32) (lab : Nat → Int32) (cc : Int32) (ci : Int32) (od : Nat → Int32) (sd : Nat → Int32) (ta : Nat → Int32) (we : Int32) (oe : Nat → Int32) (fp : Nat → Int32) (ro : Nat → Int64) (sp : Nat → Int64) (qr : Nat) (qs : Nat) : Option (Int64 × (Nat → Int32) × (Nat → Int32) × Int32 × (Nat → Int32) × (Nat → Int32) × (Nat → Int64) × (Nat → Int64) × Nat × Nat) :=
  (Option.bind (F_B_workOut lab cc ci od sd ta we oe fp ro sp qr qs) (fun v_1 => (Option.bind (F_P_at ((x1).toInt64) v_1.2.2.2.2.2.1) (fun v_2 => some (v_2, v_1.1, v_1.2.1, v_1.2.2.1, v_1.2.2.2.1, v_1.2.2.2.2.1, v_1.2.2.2.2.2.1, v_1.2.2.2.2.2.2.1, v_1.2.2.2.2.2.2.2.1, v_1.2.2.2.2.2.2.2.2)))))
def F_B_bracket (x1 : Int32) (lab : Nat → Int32) (cc : Int32) (ci : Int32) (od : Nat → Int32) (sd : Nat → Int32) (ta : Nat → Int32) (we : Int32) (oe : Nat → Int32) (fp : Nat → Int32) (ro : Nat → Int64) (sp : Nat → Int64) (qr : Nat) (qs : Nat) : Option (Int64 × (Nat → Int32) × (Nat → Int32) × Int32 × (Nat → Int32) × (Nat → Int32) × (Nat → Int64) × (Nat → Int64) × Nat × Nat) := J_B_bracket_0 x1 lab cc ci od sd ta we oe fp ro sp qr qs
def H_B_bracket_0 (p : Program) (l : Launch) (e : Env) (s : State) (m : MethodId) (args : Array Value) (below : List Frame) (meth : Method) (c : Code) (D : va_G) (A : Nat → Prop) (a : Nat → Nat) (k : Nat → ClassId) (sg : Nat → Int32) (go : Nat → Int32) (f : Int32 → (Nat → Int32) → Int32 → Int32 → (Nat → Int32) → (Nat → Int32) → (Nat → Int32) → Int32 → (Nat → Int32) → (Nat → Int32) → (Nat → Int64) → (Nat → Int64) → Nat → Nat → Option (Int64 × (Nat → Int32) × (Nat → Int32) × Int32 × (Nat → Int32) × (Nat → Int32) × (Nat → Int64) × (Nat → Int64) × Nat × Nat)) : Prop := ∀ (x1 : Int32) (lab : Nat → Int32) (cc : Int32) (ci : Int32) (od : Nat → Int32) (sd : Nat → Int32) (ta : Nat → Int32) (we : Int32) (oe : Nat → Int32) (fp : Nat → Int32) (ro : Nat → Int64) (sp : Nat → Int64) (qr : Nat) (qs : Nat) (r : Int64 × (Nat → Int32) × (Nat → Int32) × Int32 × (Nat → Int32) × (Nat → Int32) × (Nat → Int64) × (Nat → Int64) × Nat × Nat), f x1 lab cc ci od sd ta we oe fp ro sp qr qs = some r → ∀ (H : Heap) (locs : List Loc) (ls : Array Slot), va_P D classes (wB a k lab sg cc ci od sd go ta we oe fp ro sp qr qs) H → va_D A (wB a k lab sg cc ci od sd go ta we oe fp ro sp qr qs) → va_S A s.heap H locs → lv_has ls 2 [(0, .ref (a 0)), (1, .int x1)] → W p l e (rm_B_bracket) s m args below meth c H locs 0 0 (MQ below (qc_B_bracket D A a k lab sg cc ci od go r) args s 0 0 A) (F0 m 0 ls [])
set_option maxHeartbeats 4000000 in
set_option maxRecDepth 100000 in
theorem k_B_bracket_0 {p : Program} {l : Launch} {e : Env} {s : State} {m : MethodId} {args : Array Value} {below : List Frame} {meth : Method} {c : Code} {D : va_G} {A : Nat → Prop} {a : Nat → Nat} {k : Nat → ClassId} {sg : Nat → Int32} {go : Nat → Int32} (C : cx D [(k 1, .int), (k 2, .int), (k 3, .int), (k 4, .int), (k 5, .boolean), (k 6, .int), (k 8, .int), (k 9, .int), (k 11, .long)] R_B b_B_bracket 2 (some .long) A p s m args meth c) : H_B_bracket_0 p l e s m args below meth c D A a k sg go (J_B_bracket_0) := by
  obtain ⟨hx, hb, hr, hml, hown, ht, hlk, hA, hK⟩ := id C
  intro x1 lab cc ci od sd ta we oe fp ro sp qr qs r h H locs ls hP hD hS hl
  unfold J_B_bracket_0 at h
  refine lv_aload_n hx hb d_B_bracket_0 rfl (lv_at hl 0 rfl) ?_
  obtain ⟨v_1, e_1, h⟩ := bd_some h
  refine go_Vv (As := []) (rest := []) (wc := (wB a k lab sg cc ci od sd go ta we oe fp ro sp qr qs)) (wr := []) (w1 := (wB a k lab sg cc ci od v_1.1 go v_1.2.1 v_1.2.2.1 v_1.2.2.2.1 v_1.2.2.2.2.1 v_1.2.2.2.2.2.1 v_1.2.2.2.2.2.2.1 v_1.2.2.2.2.2.2.2.1 v_1.2.2.2.2.2.2.2.2)) (w2 := (wB a k lab sg cc ci od v_1.1 go v_1.2.1 v_1.2.2.1 v_1.2.2.2.1 v_1.2.2.2.2.1 v_1.2.2.2.2.2.1 v_1.2.2.2.2.2.2.1 v_1.2.2.2.2.2.2.2.1 v_1.2.2.2.2.2.2.2.2)) (tc := [(k 1, .int), (k 2, .int), (k 3, .int), (k 4, .int), (k 5, .boolean), (k 6, .int), (k 8, .int), (k 9, .int), (k 11, .long)]) hx hb hml hown ht (c_B_workOut l D a k H.size lab sg cc ci od sd go ta we oe fp ro sp qr qs v_1 e_1) g_B_88 ⟨rfl, rfl⟩ (n := 0) (by decide +kernel) ⟨(Nat.le_of_ble_eq_true rfl), (Nat.le_of_ble_eq_true rfl)⟩ hP hD hK hS hA ⟨Nat.zero_le _, Nat.zero_le _⟩ [0, 1, 2, 3, 4, 5, 6, 7, 8, 9, 10, 11, 12] [] [0, 1, 2, 3, 4, 5, 6, 7, 8] [0, 1, 2, 3, 4, 5, 6, 7, 8, 9, 10, 11, 12] rfl rfl rfl rfl (by decide) (by decide) (by decide) rfl (by decide) 0 rfl rfl rfl rfl rfl hl.1 (Nat.le_of_ble_eq_true rfl) d_B_bracket_1 (fun H locs hP hD hS => ?_)
  refine lv_aload_n hx hb d_B_bracket_4 rfl (lv_at hl 0 rfl) ?_
  refine va_get (D := D) (ci := 0) (v := .ref (a 10)) (C := R_B) (T := F_B) (N := 11) hx hb ht iC_B hown hK hP 0 rfl rfl 9 (by decide) (ht _ ix_88) (fun _ h9 => h9) rfl d_B_bracket_5 ?_
  refine lv_iload_n hx hb d_B_bracket_8 rfl (lv_at hl 1 rfl) ?_
  refine lv_i2l (v := (x1).toInt64) hx hb d_B_bracket_9 rfl ?_
  obtain ⟨v_2, e_2, h⟩ := bd_some h
  refine go_Vl (r := v_2) (As := [.long ((x1).toInt64)]) (rest := []) (wc := (wP a k v_1.2.2.2.2.2.1 v_1.2.2.2.2.2.2.1 v_1.2.2.2.2.2.2.2.1 v_1.2.2.2.2.2.2.2.2)) (wr := [((a 0), .inr (0, [.ref (a 1), .ref (a 2), .int cc, .int ci, .ref (a 3), .ref (a 4), .ref (a 5), .ref (a 6), .ref (a 7), .ref (a 10), .int v_1.2.2.1])), ((a 1), .inl (k 1, 40, .inl lab)), ((a 2), .inl (k 2, 10, .inl sg)), ((a 3), .inl (k 3, 10, .inl od)), ((a 4), .inl (k 4, 100, .inl v_1.1)), ((a 5), .inl (k 5, 10, .inl go)), ((a 6), .inl (k 6, 330, .inl v_1.2.1)), ((a 7), .inr (1, [.ref (a 8), .ref (a 9)])), ((a 8), .inl (k 8, 40, .inl v_1.2.2.2.1)), ((a 9), .inl (k 9, 100, .inl v_1.2.2.2.2.1))]) (w1 := (wP a k v_1.2.2.2.2.2.1 v_1.2.2.2.2.2.2.1 v_1.2.2.2.2.2.2.2.1 v_1.2.2.2.2.2.2.2.2)) (w2 := (wB a k lab sg cc ci od v_1.1 go v_1.2.1 v_1.2.2.1 v_1.2.2.2.1 v_1.2.2.2.2.1 v_1.2.2.2.2.2.1 v_1.2.2.2.2.2.2.1 v_1.2.2.2.2.2.2.2.1 v_1.2.2.2.2.2.2.2.2)) (tc := [(k 11, .long)]) hx hb hml hown ht (c_P_at l D a k H.size ((x1).toInt64) v_1.2.2.2.2.2.1 v_1.2.2.2.2.2.2.1 v_1.2.2.2.2.2.2.2.1 v_1.2.2.2.2.2.2.2.2 v_2 e_2) g_B_91 ⟨rfl, rfl⟩ (n := 1) (by decide +kernel) ⟨(Nat.le_of_ble_eq_true rfl), (Nat.le_of_ble_eq_true rfl)⟩ hP hD hK hS hA ⟨Nat.zero_le _, Nat.zero_le _⟩ [10, 11, 12] [0, 1, 2, 3, 4, 5, 6, 7, 8, 9] [8] [0, 1, 2, 3, 4, 5, 6, 7, 8, 9, 10, 11, 12] rfl rfl rfl rfl (by decide) (by decide) (by decide) rfl (by decide) 0 rfl rfl rfl rfl rfl hl.1 (Nat.le_of_ble_eq_true rfl) d_B_bracket_10 (fun H locs hP hD hS => ?_)
  cases h
  exact W.lret hx hb hr (fun t ht hW => ⟨⟨_, (), rfl, rfl, by rw [ht]; exact hP, va_K.moved hW.alike hK, hD⟩, hS.F ht⟩) hS.2.2 d_B_bracket_13 hlk
set_option maxRecDepth 20000 in
theorem c_B_bracket (l : Launch) (D : va_G) (a : Nat → Nat) (k : Nat → ClassId) (sz : Nat) (x1 : Int32) (lab : Nat → Int32) (sg : Nat → Int32) (cc : Int32) (ci : Int32) (od : Nat → Int32) (sd : Nat → Int32) (go : Nat → Int32) (ta : Nat → Int32) (we : Int32) (oe : Nat → Int32) (fp : Nat → Int32) (ro : Nat → Int64) (sp : Nat → Int64) (qr : Nat) (qs : Nat) (r : Int64 × (Nat → Int32) × (Nat → Int32) × Int32 × (Nat → Int32) × (Nat → Int32) × (Nat → Int64) × (Nat → Int64) × Nat × Nat) (h : F_B_bracket x1 lab cc ci od sd ta we oe fp ro sp qr qs = some r) : Met l y_B_bracket (Cond.code y_B_bracket b_B_bracket 2 (some .long) :: lw_g) (rm_B_bracket) (va_Pc [.ref (a 0), .int x1] (pcW D [(k 1, .int), (k 2, .int), (k 3, .int), (k 4, .int), (k 5, .boolean), (k 6, .int), (k 8, .int), (k 9, .int), (k 11, .long)] (wB a k lab sg cc ci od sd go ta we oe fp ro sp qr qs) sz)) (qc_B_bracket D (va_A (wB a k lab sg cc ci od sd go ta we oe fp ro sp qr qs) sz) a k lab sg cc ci od go r) 0 0 (va_A (wB a k lab sg cc ci od sd go ta we oe fp ro sp qr qs) sz) := by
  refine Met.ofW (cc := b_B_bracket) (maxL := 2) (ret := (some .long)) (by decide) rfl ?_
  intro p e s m args below meth c s₁ B hml hv
  obtain ⟨rfl, hsz, hP, hK, hD0⟩ := hv
  have hts := atoms_spec (ws := Cond.code y_B_bracket b_B_bracket 2 (some .long) :: lw_g) B.pre
  subst hsz
  have hD := hD0.self (sz := s.heap.size)
  have hl := lv_entry ([.ref (a 0), .int x1]) (n := 2) (Nat.le_of_ble_eq_true rfl)
  rw [lg_entry_eq]
  generalize (lg_sl ([.ref (a 0), .int x1]) ++ List.replicate (2 - (lg_sl ([.ref (a 0), .int x1])).length) Slot.unset).toArray = ls at hl ⊢
  exact k_B_bracket_0 ⟨B.exec, B.bytes, B.returns, hml, findClass_of_methodNamed B.named, fun w hw => hts w (List.mem_cons_of_mem _ hw), B.notSynchronized, fun q h => Or.inr h, hK⟩ _ _ _ _ _ _ _ _ _ _ _ _ _ _ _ h _ _ _ hP hD va_S.rf hl

def rm_B_jones : Room := { frames := 17, cells := 0, slots := 0, locals := 426 }
def qc_B_jones (D : va_G) (A : Nat → Prop) (a : Nat → Nat) (k : Nat → ClassId) (lab : Nat → Int32) (sg : Nat → Int32) (cc : Int32) (ci : Int32) (od : Nat → Int32) (go : Nat → Int32) (r : Int64 × (Nat → Int32) × (Nat → Int32) × Int32 × (Nat → Int32) × (Nat → Int32) × (Nat → Int64) × (Nat → Int64) × Nat × Nat) : Array Value → State → Outcome → State → Prop := va_Ql (fun (r1 : Int64) (_ : Unit) => r1 = r.1) (poW D [(k 1, .int), (k 2, .int), (k 3, .int), (k 4, .int), (k 5, .boolean), (k 6, .int), (k 8, .int), (k 9, .int), (k 11, .long)] (wB a k lab sg cc ci od r.2.1 go r.2.2.1 r.2.2.2.1 r.2.2.2.2.1 r.2.2.2.2.2.1 r.2.2.2.2.2.2.1 r.2.2.2.2.2.2.2.1 r.2.2.2.2.2.2.2.2.1 r.2.2.2.2.2.2.2.2.2) A) A
def J_B_jones_0 (x1 : Int32) (lab : Nat → Int32) (sg : Nat → Int32) (cc : Int32) (ci : Int32) (od : Nat → Int32) (sd : Nat → Int32) (ta : Nat → Int32) (we : Int32) (oe : Nat → Int32) (fp : Nat → Int32) (ro : Nat → Int64) (sp : Nat → Int64) (qr : Nat) (qs : Nat) : Option (Int64 × (Nat → Int32) × (Nat → Int32) × Int32 × (Nat → Int32) × (Nat → Int32) × (Nat → Int64) × (Nat → Int64) × Nat × Nat) :=
  (Option.bind (F_B_workOut lab cc ci od sd ta we oe fp ro sp qr qs) (fun v_1 => (Option.bind (F_B_sumOfSigns sg cc) (fun v_2 => (Option.bind (F_P_at (((x1).toInt64) + ((3 : Int64) * ((v_2).toInt64))) v_1.2.2.2.2.2.1) (fun v_3 => (if (v_2 &&& (1 : Int32)) = 0 then some (v_3, v_1.1, v_1.2.1, v_1.2.2.1, v_1.2.2.2.1, v_1.2.2.2.2.1, v_1.2.2.2.2.2.1, v_1.2.2.2.2.2.2.1, v_1.2.2.2.2.2.2.2.1, v_1.2.2.2.2.2.2.2.2) else some ((-v_3), v_1.1, v_1.2.1, v_1.2.2.1, v_1.2.2.2.1, v_1.2.2.2.2.1, v_1.2.2.2.2.2.1, v_1.2.2.2.2.2.2.1, v_1.2.2.2.2.2.2.2.1, v_1.2.2.2.2.2.2.2.2))))))))
def F_B_jones (x1 : Int32) (lab : Nat → Int32) (sg : Nat → Int32) (cc : Int32) (ci : Int32) (od : Nat → Int32) (sd : Nat → Int32) (ta : Nat → Int32) (we : Int32) (oe : Nat → Int32) (fp : Nat → Int32) (ro : Nat → Int64) (sp : Nat → Int64) (qr : Nat) (qs : Nat) : Option (Int64 × (Nat → Int32) × (Nat → Int32) × Int32 × (Nat → Int32) × (Nat → Int32) × (Nat → Int64) × (Nat → Int64) × Nat × Nat) := J_B_jones_0 x1 lab sg cc ci od sd ta we oe fp ro sp qr qs
def H_B_jones_0 (p : Program) (l : Launch) (e : Env) (s : State) (m : MethodId) (args : Array Value) (below : List Frame) (meth : Method) (c : Code) (D : va_G) (A : Nat → Prop) (a : Nat → Nat) (k : Nat → ClassId) (go : Nat → Int32) (f : Int32 → (Nat → Int32) → (Nat → Int32) → Int32 → Int32 → (Nat → Int32) → (Nat → Int32) → (Nat → Int32) → Int32 → (Nat → Int32) → (Nat → Int32) → (Nat → Int64) → (Nat → Int64) → Nat → Nat → Option (Int64 × (Nat → Int32) × (Nat → Int32) × Int32 × (Nat → Int32) × (Nat → Int32) × (Nat → Int64) × (Nat → Int64) × Nat × Nat)) : Prop := ∀ (x1 : Int32) (lab : Nat → Int32) (sg : Nat → Int32) (cc : Int32) (ci : Int32) (od : Nat → Int32) (sd : Nat → Int32) (ta : Nat → Int32) (we : Int32) (oe : Nat → Int32) (fp : Nat → Int32) (ro : Nat → Int64) (sp : Nat → Int64) (qr : Nat) (qs : Nat) (r : Int64 × (Nat → Int32) × (Nat → Int32) × Int32 × (Nat → Int32) × (Nat → Int32) × (Nat → Int64) × (Nat → Int64) × Nat × Nat), f x1 lab sg cc ci od sd ta we oe fp ro sp qr qs = some r → ∀ (H : Heap) (locs : List Loc) (ls : Array Slot), va_P D classes (wB a k lab sg cc ci od sd go ta we oe fp ro sp qr qs) H → va_D A (wB a k lab sg cc ci od sd go ta we oe fp ro sp qr qs) → va_S A s.heap H locs → lv_has ls 5 [(0, .ref (a 0)), (1, .int x1)] → W p l e (rm_B_jones) s m args below meth c H locs 0 0 (MQ below (qc_B_jones D A a k lab sg cc ci od go r) args s 0 0 A) (F0 m 0 ls [])
set_option maxHeartbeats 4000000 in
set_option maxRecDepth 100000 in
theorem k_B_jones_0 {p : Program} {l : Launch} {e : Env} {s : State} {m : MethodId} {args : Array Value} {below : List Frame} {meth : Method} {c : Code} {D : va_G} {A : Nat → Prop} {a : Nat → Nat} {k : Nat → ClassId} {go : Nat → Int32} (C : cx D [(k 1, .int), (k 2, .int), (k 3, .int), (k 4, .int), (k 5, .boolean), (k 6, .int), (k 8, .int), (k 9, .int), (k 11, .long)] R_B b_B_jones 5 (some .long) A p s m args meth c) : H_B_jones_0 p l e s m args below meth c D A a k go (J_B_jones_0) := by
  obtain ⟨hx, hb, hr, hml, hown, ht, hlk, hA, hK⟩ := id C
  intro x1 lab sg cc ci od sd ta we oe fp ro sp qr qs r h H locs ls hP hD hS hl
  unfold J_B_jones_0 at h
  refine lv_aload_n hx hb d_B_jones_0 rfl (lv_at hl 0 rfl) ?_
  obtain ⟨v_1, e_1, h⟩ := bd_some h
  refine go_Vv (As := []) (rest := []) (wc := (wB a k lab sg cc ci od sd go ta we oe fp ro sp qr qs)) (wr := []) (w1 := (wB a k lab sg cc ci od v_1.1 go v_1.2.1 v_1.2.2.1 v_1.2.2.2.1 v_1.2.2.2.2.1 v_1.2.2.2.2.2.1 v_1.2.2.2.2.2.2.1 v_1.2.2.2.2.2.2.2.1 v_1.2.2.2.2.2.2.2.2)) (w2 := (wB a k lab sg cc ci od v_1.1 go v_1.2.1 v_1.2.2.1 v_1.2.2.2.1 v_1.2.2.2.2.1 v_1.2.2.2.2.2.1 v_1.2.2.2.2.2.2.1 v_1.2.2.2.2.2.2.2.1 v_1.2.2.2.2.2.2.2.2)) (tc := [(k 1, .int), (k 2, .int), (k 3, .int), (k 4, .int), (k 5, .boolean), (k 6, .int), (k 8, .int), (k 9, .int), (k 11, .long)]) hx hb hml hown ht (c_B_workOut l D a k H.size lab sg cc ci od sd go ta we oe fp ro sp qr qs v_1 e_1) g_B_88 ⟨rfl, rfl⟩ (n := 0) (by decide +kernel) ⟨(Nat.le_of_ble_eq_true rfl), (Nat.le_of_ble_eq_true rfl)⟩ hP hD hK hS hA ⟨Nat.zero_le _, Nat.zero_le _⟩ [0, 1, 2, 3, 4, 5, 6, 7, 8, 9, 10, 11, 12] [] [0, 1, 2, 3, 4, 5, 6, 7, 8] [0, 1, 2, 3, 4, 5, 6, 7, 8, 9, 10, 11, 12] rfl rfl rfl rfl (by decide) (by decide) (by decide) rfl (by decide) 0 rfl rfl rfl rfl rfl hl.1 (Nat.le_of_ble_eq_true rfl) d_B_jones_1 (fun H locs hP hD hS => ?_)
  refine lv_aload_n hx hb d_B_jones_4 rfl (lv_at hl 0 rfl) ?_
  obtain ⟨v_2, e_2, h⟩ := bd_some h
  refine go_Vi (r := v_2) (As := []) (rest := []) (wc := (wB a k lab sg cc ci od v_1.1 go v_1.2.1 v_1.2.2.1 v_1.2.2.2.1 v_1.2.2.2.2.1 v_1.2.2.2.2.2.1 v_1.2.2.2.2.2.2.1 v_1.2.2.2.2.2.2.2.1 v_1.2.2.2.2.2.2.2.2)) (wr := []) (w1 := (wB a k lab sg cc ci od v_1.1 go v_1.2.1 v_1.2.2.1 v_1.2.2.2.1 v_1.2.2.2.2.1 v_1.2.2.2.2.2.1 v_1.2.2.2.2.2.2.1 v_1.2.2.2.2.2.2.2.1 v_1.2.2.2.2.2.2.2.2)) (w2 := (wB a k lab sg cc ci od v_1.1 go v_1.2.1 v_1.2.2.1 v_1.2.2.2.1 v_1.2.2.2.2.1 v_1.2.2.2.2.2.1 v_1.2.2.2.2.2.2.1 v_1.2.2.2.2.2.2.2.1 v_1.2.2.2.2.2.2.2.2)) (tc := [(k 1, .int), (k 2, .int), (k 3, .int), (k 4, .int), (k 5, .boolean), (k 6, .int), (k 8, .int), (k 9, .int), (k 11, .long)]) hx hb hml hown ht (c_B_sumOfSigns l D a k H.size lab sg cc ci od v_1.1 go v_1.2.1 v_1.2.2.1 v_1.2.2.2.1 v_1.2.2.2.2.1 v_1.2.2.2.2.2.1 v_1.2.2.2.2.2.2.1 v_1.2.2.2.2.2.2.2.1 v_1.2.2.2.2.2.2.2.2 v_2 e_2) g_B_95 ⟨rfl, rfl⟩ (n := 0) (by decide +kernel) ⟨(Nat.le_of_ble_eq_true rfl), (Nat.le_of_ble_eq_true rfl)⟩ hP hD hK hS hA ⟨Nat.zero_le _, Nat.zero_le _⟩ [0, 1, 2, 3, 4, 5, 6, 7, 8, 9, 10, 11, 12] [] [0, 1, 2, 3, 4, 5, 6, 7, 8] [0, 1, 2, 3, 4, 5, 6, 7, 8, 9, 10, 11, 12] rfl rfl rfl rfl (by decide) (by decide) (by decide) rfl (by decide) 0 rfl rfl rfl rfl rfl hl.1 (Nat.le_of_ble_eq_true rfl) d_B_jones_5 (fun H locs hP hD hS => ?_)
  refine lv_istore_n (lv' := [(2, .int v_2), (0, .ref (a 0)), (1, .int x1)]) hx hb d_B_jones_8 rfl hl (by decide) rfl (fun ls hl => ?_)
  refine lv_aload_n hx hb d_B_jones_9 rfl (lv_at hl 1 rfl) ?_
  refine va_get (D := D) (ci := 0) (v := .ref (a 10)) (C := R_B) (T := F_B) (N := 11) hx hb ht iC_B hown hK hP 0 rfl rfl 9 (by decide) (ht _ ix_88) (fun _ h9 => h9) rfl d_B_jones_10 ?_
  refine lv_iload_n hx hb d_B_jones_13 rfl (lv_at hl 2 rfl) ?_
  refine lv_i2l (v := (x1).toInt64) hx hb d_B_jones_14 rfl ?_
  refine lv_ldc2 (v := (3)) hx hb hown (ht _ ix_145) d_B_jones_15 ?_
  refine lv_iload_n hx hb d_B_jones_18 rfl (lv_at hl 0 rfl) ?_
  refine lv_i2l (v := (v_2).toInt64) hx hb d_B_jones_19 rfl ?_
  refine lv_lmul hx hb d_B_jones_20 ?_
  refine lv_ladd hx hb d_B_jones_21 ?_
  obtain ⟨v_3, e_3, h⟩ := bd_some h
  refine go_Vl (r := v_3) (As := [.long (((x1).toInt64) + ((3 : Int64) * ((v_2).toInt64)))]) (rest := []) (wc := (wP a k v_1.2.2.2.2.2.1 v_1.2.2.2.2.2.2.1 v_1.2.2.2.2.2.2.2.1 v_1.2.2.2.2.2.2.2.2)) (wr := [((a 0), .inr (0, [.ref (a 1), .ref (a 2), .int cc, .int ci, .ref (a 3), .ref (a 4), .ref (a 5), .ref (a 6), .ref (a 7), .ref (a 10), .int v_1.2.2.1])), ((a 1), .inl (k 1, 40, .inl lab)), ((a 2), .inl (k 2, 10, .inl sg)), ((a 3), .inl (k 3, 10, .inl od)), ((a 4), .inl (k 4, 100, .inl v_1.1)), ((a 5), .inl (k 5, 10, .inl go)), ((a 6), .inl (k 6, 330, .inl v_1.2.1)), ((a 7), .inr (1, [.ref (a 8), .ref (a 9)])), ((a 8), .inl (k 8, 40, .inl v_1.2.2.2.1)), ((a 9), .inl (k 9, 100, .inl v_1.2.2.2.2.1))]) (w1 := (wP a k v_1.2.2.2.2.2.1 v_1.2.2.2.2.2.2.1 v_1.2.2.2.2.2.2.2.1 v_1.2.2.2.2.2.2.2.2)) (w2 := (wB a k lab sg cc ci od v_1.1 go v_1.2.1 v_1.2.2.1 v_1.2.2.2.1 v_1.2.2.2.2.1 v_1.2.2.2.2.2.1 v_1.2.2.2.2.2.2.1 v_1.2.2.2.2.2.2.2.1 v_1.2.2.2.2.2.2.2.2)) (tc := [(k 11, .long)]) hx hb hml hown ht (c_P_at l D a k H.size (((x1).toInt64) + ((3 : Int64) * ((v_2).toInt64))) v_1.2.2.2.2.2.1 v_1.2.2.2.2.2.2.1 v_1.2.2.2.2.2.2.2.1 v_1.2.2.2.2.2.2.2.2 v_3 e_3) g_B_91 ⟨rfl, rfl⟩ (n := 1) (by decide +kernel) ⟨(Nat.le_of_ble_eq_true rfl), (Nat.le_of_ble_eq_true rfl)⟩ hP hD hK hS hA ⟨Nat.zero_le _, Nat.zero_le _⟩ [10, 11, 12] [0, 1, 2, 3, 4, 5, 6, 7, 8, 9] [8] [0, 1, 2, 3, 4, 5, 6, 7, 8, 9, 10, 11, 12] rfl rfl rfl rfl (by decide) (by decide) (by decide) rfl (by decide) 0 rfl rfl rfl rfl rfl hl.1 (Nat.le_of_ble_eq_true rfl) d_B_jones_22 (fun H locs hP hD hS => ?_)
  refine lv_lstore_n (lv' := [(3, .long v_3), (2, .int v_2), (0, .ref (a 0)), (1, .int x1)]) hx hb d_B_jones_25 rfl hl (by decide) rfl (fun ls hl => ?_)
  refine lv_iload_n hx hb d_B_jones_26 rfl (lv_at hl 1 rfl) ?_
  refine lv_iconst (v := 1) hx hb d_B_jones_27 (by decide) ?_
  refine lv_iand hx hb d_B_jones_28 ?_
  refine lv_if_ne (tgt := 36) hx hb d_B_jones_29 (by decide) (fun c_4 => ?_) (fun c_4 => ?_)
  · have h := ite_F c_4 h
    refine lv_lload_n hx hb d_B_jones_36 rfl (lv_at hl 0 rfl) ?_
    refine lv_lneg hx hb d_B_jones_37 ?_
    cases h
    exact W.lret hx hb hr (fun t ht hW => ⟨⟨_, (), rfl, rfl, by rw [ht]; exact hP, va_K.moved hW.alike hK, hD⟩, hS.F ht⟩) hS.2.2 d_B_jones_38 hlk
  · have h := ite_T c_4 h
    refine lv_lload_n hx hb d_B_jones_32 rfl (lv_at hl 0 rfl) ?_
    refine lv_goto (tgt := 38) hx hb d_B_jones_33 (by decide) ?_
    cases h
    exact W.lret hx hb hr (fun t ht hW => ⟨⟨_, (), rfl, rfl, by rw [ht]; exact hP, va_K.moved hW.alike hK, hD⟩, hS.F ht⟩) hS.2.2 d_B_jones_38 hlk
set_option maxRecDepth 20000 in
theorem c_B_jones (l : Launch) (D : va_G) (a : Nat → Nat) (k : Nat → ClassId) (sz : Nat) (x1 : Int32) (lab : Nat → Int32) (sg : Nat → Int32) (cc : Int32) (ci : Int32) (od : Nat → Int32) (sd : Nat → Int32) (go : Nat → Int32) (ta : Nat → Int32) (we : Int32) (oe : Nat → Int32) (fp : Nat → Int32) (ro : Nat → Int64) (sp : Nat → Int64) (qr : Nat) (qs : Nat) (r : Int64 × (Nat → Int32) × (Nat → Int32) × Int32 × (Nat → Int32) × (Nat → Int32) × (Nat → Int64) × (Nat → Int64) × Nat × Nat) (h : F_B_jones x1 lab sg cc ci od sd ta we oe fp ro sp qr qs = some r) : Met l y_B_jones (Cond.code y_B_jones b_B_jones 5 (some .long) :: lw_g) (rm_B_jones) (va_Pc [.ref (a 0), .int x1] (pcW D [(k 1, .int), (k 2, .int), (k 3, .int), (k 4, .int), (k 5, .boolean), (k 6, .int), (k 8, .int), (k 9, .int), (k 11, .long)] (wB a k lab sg cc ci od sd go ta we oe fp ro sp qr qs) sz)) (qc_B_jones D (va_A (wB a k lab sg cc ci od sd go ta we oe fp ro sp qr qs) sz) a k lab sg cc ci od go r) 0 0 (va_A (wB a k lab sg cc ci od sd go ta we oe fp ro sp qr qs) sz) := by
  refine Met.ofW (cc := b_B_jones) (maxL := 5) (ret := (some .long)) (by decide) rfl ?_
  intro p e s m args below meth c s₁ B hml hv
  obtain ⟨rfl, hsz, hP, hK, hD0⟩ := hv
  have hts := atoms_spec (ws := Cond.code y_B_jones b_B_jones 5 (some .long) :: lw_g) B.pre
  subst hsz
  have hD := hD0.self (sz := s.heap.size)
  have hl := lv_entry ([.ref (a 0), .int x1]) (n := 5) (Nat.le_of_ble_eq_true rfl)
  rw [lg_entry_eq]
  generalize (lg_sl ([.ref (a 0), .int x1]) ++ List.replicate (5 - (lg_sl ([.ref (a 0), .int x1])).length) Slot.unset).toArray = ls at hl ⊢
  exact k_B_jones_0 ⟨B.exec, B.bytes, B.returns, hml, findClass_of_methodNamed B.named, fun w hw => hts w (List.mem_cons_of_mem _ hw), B.notSynchronized, fun q h => Or.inr h, hK⟩ _ _ _ _ _ _ _ _ _ _ _ _ _ _ _ _ h _ _ _ hP hD va_S.rf hl

def rm_B_span : Room := { frames := 17, cells := 0, slots := 0, locals := 426 }
def qc_B_span (D : va_G) (A : Nat → Prop) (a : Nat → Nat) (k : Nat → ClassId) (lab : Nat → Int32) (sg : Nat → Int32) (cc : Int32) (ci : Int32) (od : Nat → Int32) (go : Nat → Int32) (r : Int32 × (Nat → Int32) × (Nat → Int32) × Int32 × (Nat → Int32) × (Nat → Int32) × (Nat → Int64) × (Nat → Int64) × Nat × Nat) : Array Value → State → Outcome → State → Prop := va_Qi (fun (r1 : Int32) (_ : Unit) => r1 = r.1) (poW D [(k 1, .int), (k 2, .int), (k 3, .int), (k 4, .int), (k 5, .boolean), (k 6, .int), (k 8, .int), (k 9, .int), (k 11, .long)] (wB a k lab sg cc ci od r.2.1 go r.2.2.1 r.2.2.2.1 r.2.2.2.2.1 r.2.2.2.2.2.1 r.2.2.2.2.2.2.1 r.2.2.2.2.2.2.2.1 r.2.2.2.2.2.2.2.2.1 r.2.2.2.2.2.2.2.2.2) A) A
def J_B_span_37 (x1 : Int32) (y0 : Int32) (lab : Nat → Int32) (sg : Nat → Int32) (cc : Int32) (ci : Int32) (od : Nat → Int32) (sd : Nat → Int32) (ta : Nat → Int32) (we : Int32) (oe : Nat → Int32) (fp : Nat → Int32) (ro : Nat → Int64) (sp : Nat → Int64) (qr : Nat) (qs : Nat) : Option (Int32 × (Nat → Int32) × (Nat → Int32) × Int32 × (Nat → Int32) × (Nat → Int32) × (Nat → Int64) × (Nat → Int64) × Nat × Nat) :=
  (if x1 = 0 then some (y0, sd, ta, we, oe, fp, ro, sp, qr, qs) else (Option.bind (F_B_sumOfSigns sg cc) (fun v_2 => some ((y0 - ((3 : Int32) * v_2)), sd, ta, we, oe, fp, ro, sp, qr, qs))))
def J_B_span_0 (x1 : Int32) (x2 : Int32) (lab : Nat → Int32) (sg : Nat → Int32) (cc : Int32) (ci : Int32) (od : Nat → Int32) (sd : Nat → Int32) (ta : Nat → Int32) (we : Int32) (oe : Nat → Int32) (fp : Nat → Int32) (ro : Nat → Int64) (sp : Nat → Int64) (qr : Nat) (qs : Nat) : Option (Int32 × (Nat → Int32) × (Nat → Int32) × Int32 × (Nat → Int32) × (Nat → Int32) × (Nat → Int64) × (Nat → Int64) × Nat × Nat) :=
  (Option.bind (F_B_workOut lab cc ci od sd ta we oe fp ro sp qr qs) (fun v_1 => (Option.bind (F_P_isZero v_1.2.2.2.2.2.1) (fun v_2 => (if v_2 = 0 then (if x2 = 0 then (Option.bind (F_P_least v_1.2.2.2.2.2.1) (fun v_5 => J_B_span_37 x1 v_5 lab sg cc ci od v_1.1 v_1.2.1 v_1.2.2.1 v_1.2.2.2.1 v_1.2.2.2.2.1 v_1.2.2.2.2.2.1 v_1.2.2.2.2.2.2.1 v_1.2.2.2.2.2.2.2.1 v_1.2.2.2.2.2.2.2.2)) else (Option.bind (F_P_greatest v_1.2.2.2.2.2.1) (fun v_6 => J_B_span_37 x1 v_6 lab sg cc ci od v_1.1 v_1.2.1 v_1.2.2.1 v_1.2.2.2.1 v_1.2.2.2.2.1 v_1.2.2.2.2.2.1 v_1.2.2.2.2.2.2.1 v_1.2.2.2.2.2.2.2.1 v_1.2.2.2.2.2.2.2.2))) else some ((0 : Int32), v_1.1, v_1.2.1, v_1.2.2.1, v_1.2.2.2.1, v_1.2.2.2.2.1, v_1.2.2.2.2.2.1, v_1.2.2.2.2.2.2.1, v_1.2.2.2.2.2.2.2.1, v_1.2.2.2.2.2.2.2.2))))))
def F_B_span (x1 : Int32) (x2 : Int32) (lab : Nat → Int32) (sg : Nat → Int32) (cc : Int32) (ci : Int32) (od : Nat → Int32) (sd : Nat → Int32) (ta : Nat → Int32) (we : Int32) (oe : Nat → Int32) (fp : Nat → Int32) (ro : Nat → Int64) (sp : Nat → Int64) (qr : Nat) (qs : Nat) : Option (Int32 × (Nat → Int32) × (Nat → Int32) × Int32 × (Nat → Int32) × (Nat → Int32) × (Nat → Int64) × (Nat → Int64) × Nat × Nat) := J_B_span_0 x1 x2 lab sg cc ci od sd ta we oe fp ro sp qr qs
def H_B_span_37 (p : Program) (l : Launch) (e : Env) (s : State) (m : MethodId) (args : Array Value) (below : List Frame) (meth : Method) (c : Code) (D : va_G) (A : Nat → Prop) (a : Nat → Nat) (k : Nat → ClassId) (go : Nat → Int32) (f : Int32 → Int32 → (Nat → Int32) → (Nat → Int32) → Int32 → Int32 → (Nat → Int32) → (Nat → Int32) → (Nat → Int32) → Int32 → (Nat → Int32) → (Nat → Int32) → (Nat → Int64) → (Nat → Int64) → Nat → Nat → Option (Int32 × (Nat → Int32) × (Nat → Int32) × Int32 × (Nat → Int32) × (Nat → Int32) × (Nat → Int64) × (Nat → Int64) × Nat × Nat)) : Prop := ∀ (x1 : Int32) (y0 : Int32) (lab : Nat → Int32) (sg : Nat → Int32) (cc : Int32) (ci : Int32) (od : Nat → Int32) (sd : Nat → Int32) (ta : Nat → Int32) (we : Int32) (oe : Nat → Int32) (fp : Nat → Int32) (ro : Nat → Int64) (sp : Nat → Int64) (qr : Nat) (qs : Nat) (r : Int32 × (Nat → Int32) × (Nat → Int32) × Int32 × (Nat → Int32) × (Nat → Int32) × (Nat → Int64) × (Nat → Int64) × Nat × Nat), f x1 y0 lab sg cc ci od sd ta we oe fp ro sp qr qs = some r → ∀ (H : Heap) (locs : List Loc) (ls : Array Slot), va_P D classes (wB a k lab sg cc ci od sd go ta we oe fp ro sp qr qs) H → va_D A (wB a k lab sg cc ci od sd go ta we oe fp ro sp qr qs) → va_S A s.heap H locs → lv_has ls 4 [(0, .ref (a 0)), (1, .int x1)] → W p l e (rm_B_span) s m args below meth c H locs 0 0 (MQ below (qc_B_span D A a k lab sg cc ci od go r) args s 0 0 A) (F0 m 37 ls [.int y0])
def H_B_span_0 (p : Program) (l : Launch) (e : Env) (s : State) (m : MethodId) (args : Array Value) (below : List Frame) (meth : Method) (c : Code) (D : va_G) (A : Nat → Prop) (a : Nat → Nat) (k : Nat → ClassId) (go : Nat → Int32) (f : Int32 → Int32 → (Nat → Int32) → (Nat → Int32) → Int32 → Int32 → (Nat → Int32) → (Nat → Int32) → (Nat → Int32) → Int32 → (Nat → Int32) → (Nat → Int32) → (Nat → Int64) → (Nat → Int64) → Nat → Nat → Option (Int32 × (Nat → Int32) × (Nat → Int32) × Int32 × (Nat → Int32) × (Nat → Int32) × (Nat → Int64) × (Nat → Int64) × Nat × Nat)) : Prop := ∀ (x1 : Int32) (x2 : Int32) (lab : Nat → Int32) (sg : Nat → Int32) (cc : Int32) (ci : Int32) (od : Nat → Int32) (sd : Nat → Int32) (ta : Nat → Int32) (we : Int32) (oe : Nat → Int32) (fp : Nat → Int32) (ro : Nat → Int64) (sp : Nat → Int64) (qr : Nat) (qs : Nat) (r : Int32 × (Nat → Int32) × (Nat → Int32) × Int32 × (Nat → Int32) × (Nat → Int32) × (Nat → Int64) × (Nat → Int64) × Nat × Nat), f x1 x2 lab sg cc ci od sd ta we oe fp ro sp qr qs = some r → ∀ (H : Heap) (locs : List Loc) (ls : Array Slot), va_P D classes (wB a k lab sg cc ci od sd go ta we oe fp ro sp qr qs) H → va_D A (wB a k lab sg cc ci od sd go ta we oe fp ro sp qr qs) → va_S A s.heap H locs → lv_has ls 4 [(0, .ref (a 0)), (1, .int x1), (2, .int x2)] → W p l e (rm_B_span) s m args below meth c H locs 0 0 (MQ below (qc_B_span D A a k lab sg cc ci od go r) args s 0 0 A) (F0 m 0 ls [])
set_option maxHeartbeats 4000000 in
set_option maxRecDepth 100000 in
theorem k_B_span_37 {p : Program} {l : Launch} {e : Env} {s : State} {m : MethodId} {args : Array Value} {below : List Frame} {meth : Method} {c : Code} {D : va_G} {A : Nat → Prop} {a : Nat → Nat} {k : Nat → ClassId} {go : Nat → Int32} (C : cx D [(k 1, .int), (k 2, .int), (k 3, .int), (k 4, .int), (k 5, .boolean), (k 6, .int), (k 8, .int), (k 9, .int), (k 11, .long)] R_B b_B_span 4 (some .int) A p s m args meth c) : H_B_span_37 p l e s m args below meth c D A a k go (J_B_span_37) := by
  obtain ⟨hx, hb, hr, hml, hown, ht, hlk, hA, hK⟩ := id C
  intro x1 y0 lab sg cc ci od sd ta we oe fp ro sp qr qs r h H locs ls hP hD hS hl
  unfold J_B_span_37 at h
  refine lv_istore_n (lv' := [(3, .int y0), (0, .ref (a 0)), (1, .int x1)]) hx hb d_B_span_37 rfl hl (by decide) rfl (fun ls hl => ?_)
  refine lv_iload_n hx hb d_B_span_38 rfl (lv_at hl 2 rfl) ?_
  refine lv_if_eq (tgt := 53) hx hb d_B_span_39 (by decide) (fun c_1 => ?_) (fun c_1 => ?_)
  · have h := ite_T c_1 h
    refine lv_iload_n hx hb d_B_span_53 rfl (lv_at hl 0 rfl) ?_
    cases h
    exact W.iret hx hb hr (fun t ht hW => ⟨⟨_, (), rfl, rfl, by rw [ht]; exact hP, va_K.moved hW.alike hK, hD⟩, hS.F ht⟩) hS.2.2 d_B_span_54 hlk
  · have h := ite_F c_1 h
    refine lv_iload_n hx hb d_B_span_42 rfl (lv_at hl 0 rfl) ?_
    refine lv_iconst (v := 3) hx hb d_B_span_43 (by decide) ?_
    refine lv_aload_n hx hb d_B_span_44 rfl (lv_at hl 1 rfl) ?_
    obtain ⟨v_2, e_2, h⟩ := bd_some h
    refine go_Vi (r := v_2) (As := []) (rest := [.int (3 : Int32), .int y0]) (wc := (wB a k lab sg cc ci od sd go ta we oe fp ro sp qr qs)) (wr := []) (w1 := (wB a k lab sg cc ci od sd go ta we oe fp ro sp qr qs)) (w2 := (wB a k lab sg cc ci od sd go ta we oe fp ro sp qr qs)) (tc := [(k 1, .int), (k 2, .int), (k 3, .int), (k 4, .int), (k 5, .boolean), (k 6, .int), (k 8, .int), (k 9, .int), (k 11, .long)]) hx hb hml hown ht (c_B_sumOfSigns l D a k H.size lab sg cc ci od sd go ta we oe fp ro sp qr qs v_2 e_2) g_B_95 ⟨rfl, rfl⟩ (n := 0) (by decide +kernel) ⟨(Nat.le_of_ble_eq_true rfl), (Nat.le_of_ble_eq_true rfl)⟩ hP hD hK hS hA ⟨Nat.zero_le _, Nat.zero_le _⟩ [0, 1, 2, 3, 4, 5, 6, 7, 8, 9, 10, 11, 12] [] [0, 1, 2, 3, 4, 5, 6, 7, 8] [0, 1, 2, 3, 4, 5, 6, 7, 8, 9, 10, 11, 12] rfl rfl rfl rfl (by decide) (by decide) (by decide) rfl (by decide) 0 rfl rfl rfl rfl rfl hl.1 (Nat.le_of_ble_eq_true rfl) d_B_span_45 (fun H locs hP hD hS => ?_)
    refine lv_imul hx hb d_B_span_48 ?_
    refine lv_isub hx hb d_B_span_49 ?_
    refine lv_goto (tgt := 54) hx hb d_B_span_50 (by decide) ?_
    cases h
    exact W.iret hx hb hr (fun t ht hW => ⟨⟨_, (), rfl, rfl, by rw [ht]; exact hP, va_K.moved hW.alike hK, hD⟩, hS.F ht⟩) hS.2.2 d_B_span_54 hlk
set_option maxHeartbeats 4000000 in
set_option maxRecDepth 100000 in
theorem k_B_span_0 {p : Program} {l : Launch} {e : Env} {s : State} {m : MethodId} {args : Array Value} {below : List Frame} {meth : Method} {c : Code} {D : va_G} {A : Nat → Prop} {a : Nat → Nat} {k : Nat → ClassId} {go : Nat → Int32} (C : cx D [(k 1, .int), (k 2, .int), (k 3, .int), (k 4, .int), (k 5, .boolean), (k 6, .int), (k 8, .int), (k 9, .int), (k 11, .long)] R_B b_B_span 4 (some .int) A p s m args meth c) : H_B_span_0 p l e s m args below meth c D A a k go (J_B_span_0) := by
  obtain ⟨hx, hb, hr, hml, hown, ht, hlk, hA, hK⟩ := id C
  intro x1 x2 lab sg cc ci od sd ta we oe fp ro sp qr qs r h H locs ls hP hD hS hl
  unfold J_B_span_0 at h
  refine lv_aload_n hx hb d_B_span_0 rfl (lv_at hl 0 rfl) ?_
  obtain ⟨v_1, e_1, h⟩ := bd_some h
  refine go_Vv (As := []) (rest := []) (wc := (wB a k lab sg cc ci od sd go ta we oe fp ro sp qr qs)) (wr := []) (w1 := (wB a k lab sg cc ci od v_1.1 go v_1.2.1 v_1.2.2.1 v_1.2.2.2.1 v_1.2.2.2.2.1 v_1.2.2.2.2.2.1 v_1.2.2.2.2.2.2.1 v_1.2.2.2.2.2.2.2.1 v_1.2.2.2.2.2.2.2.2)) (w2 := (wB a k lab sg cc ci od v_1.1 go v_1.2.1 v_1.2.2.1 v_1.2.2.2.1 v_1.2.2.2.2.1 v_1.2.2.2.2.2.1 v_1.2.2.2.2.2.2.1 v_1.2.2.2.2.2.2.2.1 v_1.2.2.2.2.2.2.2.2)) (tc := [(k 1, .int), (k 2, .int), (k 3, .int), (k 4, .int), (k 5, .boolean), (k 6, .int), (k 8, .int), (k 9, .int), (k 11, .long)]) hx hb hml hown ht (c_B_workOut l D a k H.size lab sg cc ci od sd go ta we oe fp ro sp qr qs v_1 e_1) g_B_88 ⟨rfl, rfl⟩ (n := 0) (by decide +kernel) ⟨(Nat.le_of_ble_eq_true rfl), (Nat.le_of_ble_eq_true rfl)⟩ hP hD hK hS hA ⟨Nat.zero_le _, Nat.zero_le _⟩ [0, 1, 2, 3, 4, 5, 6, 7, 8, 9, 10, 11, 12] [] [0, 1, 2, 3, 4, 5, 6, 7, 8] [0, 1, 2, 3, 4, 5, 6, 7, 8, 9, 10, 11, 12] rfl rfl rfl rfl (by decide) (by decide) (by decide) rfl (by decide) 0 rfl rfl rfl rfl rfl hl.1 (Nat.le_of_ble_eq_true rfl) d_B_span_1 (fun H locs hP hD hS => ?_)
  refine lv_aload_n hx hb d_B_span_4 rfl (lv_at hl 0 rfl) ?_
  refine va_get (D := D) (ci := 0) (v := .ref (a 10)) (C := R_B) (T := F_B) (N := 11) hx hb ht iC_B hown hK hP 0 rfl rfl 9 (by decide) (ht _ ix_88) (fun _ h9 => h9) rfl d_B_span_5 ?_
  obtain ⟨v_2, e_2, h⟩ := bd_some h
  refine go_Vi (r := v_2) (As := []) (rest := []) (wc := (wP a k v_1.2.2.2.2.2.1 v_1.2.2.2.2.2.2.1 v_1.2.2.2.2.2.2.2.1 v_1.2.2.2.2.2.2.2.2)) (wr := [((a 0), .inr (0, [.ref (a 1), .ref (a 2), .int cc, .int ci, .ref (a 3), .ref (a 4), .ref (a 5), .ref (a 6), .ref (a 7), .ref (a 10), .int v_1.2.2.1])), ((a 1), .inl (k 1, 40, .inl lab)), ((a 2), .inl (k 2, 10, .inl sg)), ((a 3), .inl (k 3, 10, .inl od)), ((a 4), .inl (k 4, 100, .inl v_1.1)), ((a 5), .inl (k 5, 10, .inl go)), ((a 6), .inl (k 6, 330, .inl v_1.2.1)), ((a 7), .inr (1, [.ref (a 8), .ref (a 9)])), ((a 8), .inl (k 8, 40, .inl v_1.2.2.2.1)), ((a 9), .inl (k 9, 100, .inl v_1.2.2.2.2.1))]) (w1 := (wP a k v_1.2.2.2.2.2.1 v_1.2.2.2.2.2.2.1 v_1.2.2.2.2.2.2.2.1 v_1.2.2.2.2.2.2.2.2)) (w2 := (wB a k lab sg cc ci od v_1.1 go v_1.2.1 v_1.2.2.1 v_1.2.2.2.1 v_1.2.2.2.2.1 v_1.2.2.2.2.2.1 v_1.2.2.2.2.2.2.1 v_1.2.2.2.2.2.2.2.1 v_1.2.2.2.2.2.2.2.2)) (tc := [(k 11, .long)]) hx hb hml hown ht (c_P_isZero l D a k H.size v_1.2.2.2.2.2.1 v_1.2.2.2.2.2.2.1 v_1.2.2.2.2.2.2.2.1 v_1.2.2.2.2.2.2.2.2 v_2 e_2) g_B_100 ⟨rfl, rfl⟩ (n := 0) (by decide +kernel) ⟨(Nat.le_of_ble_eq_true rfl), (Nat.le_of_ble_eq_true rfl)⟩ hP hD hK hS hA ⟨Nat.zero_le _, Nat.zero_le _⟩ [10, 11, 12] [0, 1, 2, 3, 4, 5, 6, 7, 8, 9] [8] [0, 1, 2, 3, 4, 5, 6, 7, 8, 9, 10, 11, 12] rfl rfl rfl rfl (by decide) (by decide) (by decide) rfl (by decide) 0 rfl rfl rfl rfl rfl hl.1 (Nat.le_of_ble_eq_true rfl) d_B_span_8 (fun H locs hP hD hS => ?_)
  refine lv_if_eq (tgt := 16) hx hb d_B_span_11 (by decide) (fun c_3 => ?_) (fun c_3 => ?_)
  · have h := ite_T c_3 h
    refine lv_iload_n hx hb d_B_span_16 rfl (lv_at hl 2 rfl) ?_
    refine lv_if_eq (tgt := 30) hx hb d_B_span_17 (by decide) (fun c_4 => ?_) (fun c_4 => ?_)
    · have h := ite_T c_4 h
      refine lv_aload_n hx hb d_B_span_30 rfl (lv_at hl 0 rfl) ?_
      refine va_get (D := D) (ci := 0) (v := .ref (a 10)) (C := R_B) (T := F_B) (N := 11) hx hb ht iC_B hown hK hP 0 rfl rfl 9 (by decide) (ht _ ix_88) (fun _ h9 => h9) rfl d_B_span_31 ?_
      obtain ⟨v_5, e_5, h⟩ := bd_some h
      refine go_Vi (r := v_5) (As := []) (rest := []) (wc := (wP a k v_1.2.2.2.2.2.1 v_1.2.2.2.2.2.2.1 v_1.2.2.2.2.2.2.2.1 v_1.2.2.2.2.2.2.2.2)) (wr := [((a 0), .inr (0, [.ref (a 1), .ref (a 2), .int cc, .int ci, .ref (a 3), .ref (a 4), .ref (a 5), .ref (a 6), .ref (a 7), .ref (a 10), .int v_1.2.2.1])), ((a 1), .inl (k 1, 40, .inl lab)), ((a 2), .inl (k 2, 10, .inl sg)), ((a 3), .inl (k 3, 10, .inl od)), ((a 4), .inl (k 4, 100, .inl v_1.1)), ((a 5), .inl (k 5, 10, .inl go)), ((a 6), .inl (k 6, 330, .inl v_1.2.1)), ((a 7), .inr (1, [.ref (a 8), .ref (a 9)])), ((a 8), .inl (k 8, 40, .inl v_1.2.2.2.1)), ((a 9), .inl (k 9, 100, .inl v_1.2.2.2.2.1))]) (w1 := (wP a k v_1.2.2.2.2.2.1 v_1.2.2.2.2.2.2.1 v_1.2.2.2.2.2.2.2.1 v_1.2.2.2.2.2.2.2.2)) (w2 := (wB a k lab sg cc ci od v_1.1 go v_1.2.1 v_1.2.2.1 v_1.2.2.2.1 v_1.2.2.2.2.1 v_1.2.2.2.2.2.1 v_1.2.2.2.2.2.2.1 v_1.2.2.2.2.2.2.2.1 v_1.2.2.2.2.2.2.2.2)) (tc := [(k 11, .long)]) hx hb hml hown ht (c_P_least l D a k H.size v_1.2.2.2.2.2.1 v_1.2.2.2.2.2.2.1 v_1.2.2.2.2.2.2.2.1 v_1.2.2.2.2.2.2.2.2 v_5 e_5) g_B_106 ⟨rfl, rfl⟩ (n := 0) (by decide +kernel) ⟨(Nat.le_of_ble_eq_true rfl), (Nat.le_of_ble_eq_true rfl)⟩ hP hD hK hS hA ⟨Nat.zero_le _, Nat.zero_le _⟩ [10, 11, 12] [0, 1, 2, 3, 4, 5, 6, 7, 8, 9] [8] [0, 1, 2, 3, 4, 5, 6, 7, 8, 9, 10, 11, 12] rfl rfl rfl rfl (by decide) (by decide) (by decide) rfl (by decide) 0 rfl rfl rfl rfl rfl hl.1 (Nat.le_of_ble_eq_true rfl) d_B_span_34 (fun H locs hP hD hS => ?_)
      exact (k_B_span_37 C) _ _ _ _ _ _ _ _ _ _ _ _ _ _ _ _ _ h _ _ _ hP hD hS (lv_sub hl [0, 1] rfl)
    · have h := ite_F c_4 h
      refine lv_aload_n hx hb d_B_span_20 rfl (lv_at hl 0 rfl) ?_
      refine va_get (D := D) (ci := 0) (v := .ref (a 10)) (C := R_B) (T := F_B) (N := 11) hx hb ht iC_B hown hK hP 0 rfl rfl 9 (by decide) (ht _ ix_88) (fun _ h9 => h9) rfl d_B_span_21 ?_
      obtain ⟨v_6, e_6, h⟩ := bd_some h
      refine go_Vi (r := v_6) (As := []) (rest := []) (wc := (wP a k v_1.2.2.2.2.2.1 v_1.2.2.2.2.2.2.1 v_1.2.2.2.2.2.2.2.1 v_1.2.2.2.2.2.2.2.2)) (wr := [((a 0), .inr (0, [.ref (a 1), .ref (a 2), .int cc, .int ci, .ref (a 3), .ref (a 4), .ref (a 5), .ref (a 6), .ref (a 7), .ref (a 10), .int v_1.2.2.1])), ((a 1), .inl (k 1, 40, .inl lab)), ((a 2), .inl (k 2, 10, .inl sg)), ((a 3), .inl (k 3, 10, .inl od)), ((a 4), .inl (k 4, 100, .inl v_1.1)), ((a 5), .inl (k 5, 10, .inl go)), ((a 6), .inl (k 6, 330, .inl v_1.2.1)), ((a 7), .inr (1, [.ref (a 8), .ref (a 9)])), ((a 8), .inl (k 8, 40, .inl v_1.2.2.2.1)), ((a 9), .inl (k 9, 100, .inl v_1.2.2.2.2.1))]) (w1 := (wP a k v_1.2.2.2.2.2.1 v_1.2.2.2.2.2.2.1 v_1.2.2.2.2.2.2.2.1 v_1.2.2.2.2.2.2.2.2)) (w2 := (wB a k lab sg cc ci od v_1.1 go v_1.2.1 v_1.2.2.1 v_1.2.2.2.1 v_1.2.2.2.2.1 v_1.2.2.2.2.2.1 v_1.2.2.2.2.2.2.1 v_1.2.2.2.2.2.2.2.1 v_1.2.2.2.2.2.2.2.2)) (tc := [(k 11, .long)]) hx hb hml hown ht (c_P_greatest l D a k H.size v_1.2.2.2.2.2.1 v_1.2.2.2.2.2.2.1 v_1.2.2.2.2.2.2.2.1 v_1.2.2.2.2.2.2.2.2 v_6 e_6) g_B_103 ⟨rfl, rfl⟩ (n := 0) (by decide +kernel) ⟨(Nat.le_of_ble_eq_true rfl), (Nat.le_of_ble_eq_true rfl)⟩ hP hD hK hS hA ⟨Nat.zero_le _, Nat.zero_le _⟩ [10, 11, 12] [0, 1, 2, 3, 4, 5, 6, 7, 8, 9] [8] [0, 1, 2, 3, 4, 5, 6, 7, 8, 9, 10, 11, 12] rfl rfl rfl rfl (by decide) (by decide) (by decide) rfl (by decide) 0 rfl rfl rfl rfl rfl hl.1 (Nat.le_of_ble_eq_true rfl) d_B_span_24 (fun H locs hP hD hS => ?_)
      refine lv_goto (tgt := 37) hx hb d_B_span_27 (by decide) ?_
      exact (k_B_span_37 C) _ _ _ _ _ _ _ _ _ _ _ _ _ _ _ _ _ h _ _ _ hP hD hS (lv_sub hl [0, 1] rfl)
  · have h := ite_F c_3 h
    refine lv_iconst (v := 0) hx hb d_B_span_14 (by decide) ?_
    cases h
    exact W.iret hx hb hr (fun t ht hW => ⟨⟨_, (), rfl, rfl, by rw [ht]; exact hP, va_K.moved hW.alike hK, hD⟩, hS.F ht⟩) hS.2.2 d_B_span_15 hlk
set_option maxRecDepth 20000 in
theorem c_B_span (l : Launch) (D : va_G) (a : Nat → Nat) (k : Nat → ClassId) (sz : Nat) (x1 : Int32) (x2 : Int32) (lab : Nat → Int32) (sg : Nat → Int32) (cc : Int32) (ci : Int32) (od : Nat → Int32) (sd : Nat → Int32) (go : Nat → Int32) (ta : Nat → Int32) (we : Int32) (oe : Nat → Int32) (fp : Nat → Int32) (ro : Nat → Int64) (sp : Nat → Int64) (qr : Nat) (qs : Nat) (r : Int32 × (Nat → Int32) × (Nat → Int32) × Int32 × (Nat → Int32) × (Nat → Int32) × (Nat → Int64) × (Nat → Int64) × Nat × Nat) (h : F_B_span x1 x2 lab sg cc ci od sd ta we oe fp ro sp qr qs = some r) : Met l y_B_span (Cond.code y_B_span b_B_span 4 (some .int) :: lw_g) (rm_B_span) (va_Pc [.ref (a 0), .int x1, .int x2] (pcW D [(k 1, .int), (k 2, .int), (k 3, .int), (k 4, .int), (k 5, .boolean), (k 6, .int), (k 8, .int), (k 9, .int), (k 11, .long)] (wB a k lab sg cc ci od sd go ta we oe fp ro sp qr qs) sz)) (qc_B_span D (va_A (wB a k lab sg cc ci od sd go ta we oe fp ro sp qr qs) sz) a k lab sg cc ci od go r) 0 0 (va_A (wB a k lab sg cc ci od sd go ta we oe fp ro sp qr qs) sz) := by
  refine Met.ofW (cc := b_B_span) (maxL := 4) (ret := (some .int)) (by decide) rfl ?_
  intro p e s m args below meth c s₁ B hml hv
  obtain ⟨rfl, hsz, hP, hK, hD0⟩ := hv
  have hts := atoms_spec (ws := Cond.code y_B_span b_B_span 4 (some .int) :: lw_g) B.pre
  subst hsz
  have hD := hD0.self (sz := s.heap.size)
  have hl := lv_entry ([.ref (a 0), .int x1, .int x2]) (n := 4) (Nat.le_of_ble_eq_true rfl)
  rw [lg_entry_eq]
  generalize (lg_sl ([.ref (a 0), .int x1, .int x2]) ++ List.replicate (4 - (lg_sl ([.ref (a 0), .int x1, .int x2])).length) Slot.unset).toArray = ls at hl ⊢
  exact k_B_span_0 ⟨B.exec, B.bytes, B.returns, hml, findClass_of_methodNamed B.named, fun w hw => hts w (List.mem_cons_of_mem _ hw), B.notSynchronized, fun q h => Or.inr h, hK⟩ _ _ _ _ _ _ _ _ _ _ _ _ _ _ _ _ _ h _ _ _ hP hD va_S.rf hl

def rm_B_state : Room := { frames := 4, cells := 0, slots := 0, locals := 85 }
def qc_B_state (D : va_G) (A : Nat → Prop) (a : Nat → Nat) (k : Nat → ClassId) (lab : Nat → Int32) (sg : Nat → Int32) (cc : Int32) (ci : Int32) (od : Nat → Int32) (go : Nat → Int32) (ta : Nat → Int32) (we : Int32) (ro : Nat → Int64) (sp : Nat → Int64) (qr : Nat) (qs : Nat) (r : Int32 × (Nat → Int32) × (Nat → Int32) × (Nat → Int32)) : Array Value → State → Outcome → State → Prop := va_Qi (fun (r1 : Int32) (_ : Unit) => r1 = r.1) (poW D [(k 1, .int), (k 2, .int), (k 3, .int), (k 4, .int), (k 5, .boolean), (k 6, .int), (k 8, .int), (k 9, .int), (k 11, .long)] (wB a k lab sg cc ci od r.2.1 go ta we r.2.2.1 r.2.2.2 ro sp qr qs) A) A
def J_B_state_68 (rec47 : Int32 → Int32 → Int32 → (Nat → Int32) → Int32 → Int32 → (Nat → Int32) → (Nat → Int32) → (Nat → Int32) → Option (Int32 × (Nat → Int32) × (Nat → Int32) × (Nat → Int32))) (x1 : Int32) (x2 : Int32) (x3 : Int32) (y0 : Int32) (lab : Nat → Int32) (cc : Int32) (ci : Int32) (sd : Nat → Int32) (oe : Nat → Int32) (fp : Nat → Int32) : Option (Int32 × (Nat → Int32) × (Nat → Int32) × (Nat → Int32)) :=
  (Option.bind (F_W_smooth x3 y0 oe) (fun v_1 => rec47 x1 (x2 + v_1.1) (x3 + 1) lab cc ci sd v_1.2 fp))
def J_B_state_47 (rec47 : Int32 → Int32 → Int32 → (Nat → Int32) → Int32 → Int32 → (Nat → Int32) → (Nat → Int32) → (Nat → Int32) → Option (Int32 × (Nat → Int32) × (Nat → Int32) × (Nat → Int32))) (x1 : Int32) (x2 : Int32) (x3 : Int32) (lab : Nat → Int32) (cc : Int32) (ci : Int32) (sd : Nat → Int32) (oe : Nat → Int32) (fp : Nat → Int32) : Option (Int32 × (Nat → Int32) × (Nat → Int32) × (Nat → Int32)) :=
  (if cc ≤ x3 then some (x2, sd, oe, fp) else (if ((x1 >>> (x3 &&& 31)) &&& (1 : Int32)) = 0 then J_B_state_68 rec47 x1 x2 x3 (1 : Int32) lab cc ci sd oe fp else J_B_state_68 rec47 x1 x2 x3 (0 : Int32) lab cc ci sd oe fp))
def L_B_state_47 : Nat → Int32 → Int32 → Int32 → (Nat → Int32) → Int32 → Int32 → (Nat → Int32) → (Nat → Int32) → (Nat → Int32) → Option (Int32 × (Nat → Int32) × (Nat → Int32) × (Nat → Int32))
  | 0 => fun _ _ _ _ _ _ _ _ _ => none
  | n + 1 => J_B_state_47 (L_B_state_47 n)
def J_B_state_0 (x1 : Int32) (lab : Nat → Int32) (cc : Int32) (ci : Int32) (sd : Nat → Int32) (oe : Nat → Int32) (fp : Nat → Int32) : Option (Int32 × (Nat → Int32) × (Nat → Int32) × (Nat → Int32)) :=
  (if x1 < 0 then some ((-1 : Int32), sd, oe, fp) else (if ((1 : Int32) <<< (cc &&& 31)) ≤ x1 then some ((-1 : Int32), sd, oe, fp) else (Option.bind (F_B_isCode lab cc sd) (fun v_3 => (if v_3.1 = 0 then some ((-1 : Int32), v_3.2, oe, fp) else (Option.bind (F_W_followLabels ((4 : Int32) * cc) oe fp lab) (fun v_5 => L_B_state_47 fu x1 ci (0 : Int32) lab cc ci v_3.2 v_5.1 v_5.2)))))))
def F_B_state (x1 : Int32) (lab : Nat → Int32) (cc : Int32) (ci : Int32) (sd : Nat → Int32) (oe : Nat → Int32) (fp : Nat → Int32) : Option (Int32 × (Nat → Int32) × (Nat → Int32) × (Nat → Int32)) := J_B_state_0 x1 lab cc ci sd oe fp
def H_B_state_68 (p : Program) (l : Launch) (e : Env) (s : State) (m : MethodId) (args : Array Value) (below : List Frame) (meth : Method) (c : Code) (D : va_G) (A : Nat → Prop) (a : Nat → Nat) (k : Nat → ClassId) (sg : Nat → Int32) (od : Nat → Int32) (go : Nat → Int32) (ta : Nat → Int32) (we : Int32) (ro : Nat → Int64) (sp : Nat → Int64) (qr : Nat) (qs : Nat) (f : Int32 → Int32 → Int32 → Int32 → (Nat → Int32) → Int32 → Int32 → (Nat → Int32) → (Nat → Int32) → (Nat → Int32) → Option (Int32 × (Nat → Int32) × (Nat → Int32) × (Nat → Int32))) : Prop := ∀ (x1 : Int32) (x2 : Int32) (x3 : Int32) (y0 : Int32) (lab : Nat → Int32) (cc : Int32) (ci : Int32) (sd : Nat → Int32) (oe : Nat → Int32) (fp : Nat → Int32) (r : Int32 × (Nat → Int32) × (Nat → Int32) × (Nat → Int32)), f x1 x2 x3 y0 lab cc ci sd oe fp = some r → ∀ (H : Heap) (locs : List Loc) (ls : Array Slot), va_P D classes (wB a k lab sg cc ci od sd go ta we oe fp ro sp qr qs) H → va_D A (wB a k lab sg cc ci od sd go ta we oe fp ro sp qr qs) → va_S A s.heap H locs → lv_has ls 5 [(0, .ref (a 0)), (1, .int x1), (2, .int x2), (3, .int x3)] → W p l e (rm_B_state) s m args below meth c H locs 0 0 (MQ below (qc_B_state D A a k lab sg cc ci od go ta we ro sp qr qs r) args s 0 0 A) (F0 m 68 ls [.int y0])
def H_B_state_47 (p : Program) (l : Launch) (e : Env) (s : State) (m : MethodId) (args : Array Value) (below : List Frame) (meth : Method) (c : Code) (D : va_G) (A : Nat → Prop) (a : Nat → Nat) (k : Nat → ClassId) (sg : Nat → Int32) (od : Nat → Int32) (go : Nat → Int32) (ta : Nat → Int32) (we : Int32) (ro : Nat → Int64) (sp : Nat → Int64) (qr : Nat) (qs : Nat) (f : Int32 → Int32 → Int32 → (Nat → Int32) → Int32 → Int32 → (Nat → Int32) → (Nat → Int32) → (Nat → Int32) → Option (Int32 × (Nat → Int32) × (Nat → Int32) × (Nat → Int32))) : Prop := ∀ (x1 : Int32) (x2 : Int32) (x3 : Int32) (lab : Nat → Int32) (cc : Int32) (ci : Int32) (sd : Nat → Int32) (oe : Nat → Int32) (fp : Nat → Int32) (r : Int32 × (Nat → Int32) × (Nat → Int32) × (Nat → Int32)), f x1 x2 x3 lab cc ci sd oe fp = some r → ∀ (H : Heap) (locs : List Loc) (ls : Array Slot), va_P D classes (wB a k lab sg cc ci od sd go ta we oe fp ro sp qr qs) H → va_D A (wB a k lab sg cc ci od sd go ta we oe fp ro sp qr qs) → va_S A s.heap H locs → lv_has ls 5 [(0, .ref (a 0)), (1, .int x1), (2, .int x2), (3, .int x3)] → W p l e (rm_B_state) s m args below meth c H locs 0 0 (MQ below (qc_B_state D A a k lab sg cc ci od go ta we ro sp qr qs r) args s 0 0 A) (F0 m 47 ls [])
def H_B_state_0 (p : Program) (l : Launch) (e : Env) (s : State) (m : MethodId) (args : Array Value) (below : List Frame) (meth : Method) (c : Code) (D : va_G) (A : Nat → Prop) (a : Nat → Nat) (k : Nat → ClassId) (sg : Nat → Int32) (od : Nat → Int32) (go : Nat → Int32) (ta : Nat → Int32) (we : Int32) (ro : Nat → Int64) (sp : Nat → Int64) (qr : Nat) (qs : Nat) (f : Int32 → (Nat → Int32) → Int32 → Int32 → (Nat → Int32) → (Nat → Int32) → (Nat → Int32) → Option (Int32 × (Nat → Int32) × (Nat → Int32) × (Nat → Int32))) : Prop := ∀ (x1 : Int32) (lab : Nat → Int32) (cc : Int32) (ci : Int32) (sd : Nat → Int32) (oe : Nat → Int32) (fp : Nat → Int32) (r : Int32 × (Nat → Int32) × (Nat → Int32) × (Nat → Int32)), f x1 lab cc ci sd oe fp = some r → ∀ (H : Heap) (locs : List Loc) (ls : Array Slot), va_P D classes (wB a k lab sg cc ci od sd go ta we oe fp ro sp qr qs) H → va_D A (wB a k lab sg cc ci od sd go ta we oe fp ro sp qr qs) → va_S A s.heap H locs → lv_has ls 5 [(0, .ref (a 0)), (1, .int x1)] → W p l e (rm_B_state) s m args below meth c H locs 0 0 (MQ below (qc_B_state D A a k lab sg cc ci od go ta we ro sp qr qs r) args s 0 0 A) (F0 m 0 ls [])
set_option maxHeartbeats 4000000 in
set_option maxRecDepth 100000 in
theorem k_B_state_68 {p : Program} {l : Launch} {e : Env} {s : State} {m : MethodId} {args : Array Value} {below : List Frame} {meth : Method} {c : Code} {D : va_G} {A : Nat → Prop} {a : Nat → Nat} {k : Nat → ClassId} {sg : Nat → Int32} {od : Nat → Int32} {go : Nat → Int32} {ta : Nat → Int32} {we : Int32} {ro : Nat → Int64} {sp : Nat → Int64} {qr : Nat} {qs : Nat} {rec47 : Int32 → Int32 → Int32 → (Nat → Int32) → Int32 → Int32 → (Nat → Int32) → (Nat → Int32) → (Nat → Int32) → Option (Int32 × (Nat → Int32) × (Nat → Int32) × (Nat → Int32))} (C : cx D [(k 1, .int), (k 2, .int), (k 3, .int), (k 4, .int), (k 5, .boolean), (k 6, .int), (k 8, .int), (k 9, .int), (k 11, .long)] R_B b_B_state 5 (some .int) A p s m args meth c) (hrec47 : H_B_state_47 p l e s m args below meth c D A a k sg od go ta we ro sp qr qs rec47) : H_B_state_68 p l e s m args below meth c D A a k sg od go ta we ro sp qr qs (J_B_state_68 rec47) := by
  obtain ⟨hx, hb, hr, hml, hown, ht, hlk, hA, hK⟩ := id C
  intro x1 x2 x3 y0 lab cc ci sd oe fp r h H locs ls hP hD hS hl
  unfold J_B_state_68 at h
  refine lv_istore (lv' := [(4, .int y0), (0, .ref (a 0)), (1, .int x1), (2, .int x2), (3, .int x3)]) hx hb d_B_state_68 hl (by decide) rfl (fun ls hl => ?_)
  refine lv_iload_n hx hb d_B_state_70 rfl (lv_at hl 3 rfl) ?_
  refine lv_aload_n hx hb d_B_state_71 rfl (lv_at hl 1 rfl) ?_
  refine va_get (D := D) (ci := 0) (v := .ref (a 7)) (C := R_B) (T := F_B) (N := 11) hx hb ht iC_B hown hK hP 0 rfl rfl 8 (by decide) (ht _ ix_71) (fun _ h9 => h9) rfl d_B_state_72 ?_
  refine lv_iload_n hx hb d_B_state_75 rfl (lv_at hl 4 rfl) ?_
  refine lv_iload hx hb d_B_state_76 (lv_at hl 0 rfl) ?_
  obtain ⟨v_1, e_1, h⟩ := bd_some h
  refine go_Vi (r := v_1.1) (As := [.int x3, .int y0]) (rest := [.int x2]) (wc := (wW a k oe fp)) (wr := [((a 0), .inr (0, [.ref (a 1), .ref (a 2), .int cc, .int ci, .ref (a 3), .ref (a 4), .ref (a 5), .ref (a 6), .ref (a 7), .ref (a 10), .int we])), ((a 1), .inl (k 1, 40, .inl lab)), ((a 2), .inl (k 2, 10, .inl sg)), ((a 3), .inl (k 3, 10, .inl od)), ((a 4), .inl (k 4, 100, .inl sd)), ((a 5), .inl (k 5, 10, .inl go)), ((a 6), .inl (k 6, 330, .inl ta)), ((a 10), .inr (2, [.ref qr, .ref qs])), (qr, .inl (k 11, 133, .inr (.inl ro))), (qs, .inl (k 11, 133, .inr (.inl sp)))]) (w1 := (wW a k v_1.2 fp)) (w2 := (wB a k lab sg cc ci od sd go ta we v_1.2 fp ro sp qr qs)) (tc := [(k 8, .int), (k 9, .int)]) hx hb hml hown ht (c_W_smooth l D a k H.size x3 y0 oe fp v_1 e_1) g_B_113 ⟨rfl, rfl⟩ (n := 2) (by decide +kernel) ⟨(Nat.le_of_ble_eq_true rfl), (Nat.le_of_ble_eq_true rfl)⟩ hP hD hK hS hA ⟨Nat.zero_le _, Nat.zero_le _⟩ [7, 8, 9] [0, 1, 2, 3, 4, 5, 6, 10, 11, 12] [6, 7] [0, 1, 2, 3, 4, 5, 6, 10, 11, 12, 7, 8, 9] rfl rfl rfl rfl (by decide) (by decide) (by decide) rfl (by decide) 0 rfl rfl rfl rfl rfl hl.1 (Nat.le_of_ble_eq_true rfl) d_B_state_78 (fun H locs hP hD hS => ?_)
  refine lv_iadd hx hb d_B_state_81 ?_
  refine lv_istore_n (lv' := [(2, .int (x2 + v_1.1)), (4, .int y0), (0, .ref (a 0)), (1, .int x1), (3, .int x3)]) hx hb d_B_state_82 rfl hl (by decide) rfl (fun ls hl => ?_)
  refine lv_iinc (v := x3 + 1) (lv' := [(3, .int (x3 + 1)), (2, .int (x2 + v_1.1)), (4, .int y0), (0, .ref (a 0)), (1, .int x1)]) hx hb d_B_state_83 hl (k := 4) rfl rfl (by decide) rfl (fun ls hl => ?_)
  refine lv_goto (tgt := 47) hx hb d_B_state_86 (by decide) ?_
  exact hrec47 _ _ _ _ _ _ _ _ _ _ h _ _ _ hP hD hS (lv_sub hl [3, 4, 1, 0] rfl)
set_option maxHeartbeats 4000000 in
set_option maxRecDepth 100000 in
theorem k_B_state_47 {p : Program} {l : Launch} {e : Env} {s : State} {m : MethodId} {args : Array Value} {below : List Frame} {meth : Method} {c : Code} {D : va_G} {A : Nat → Prop} {a : Nat → Nat} {k : Nat → ClassId} {sg : Nat → Int32} {od : Nat → Int32} {go : Nat → Int32} {ta : Nat → Int32} {we : Int32} {ro : Nat → Int64} {sp : Nat → Int64} {qr : Nat} {qs : Nat} {rec47 : Int32 → Int32 → Int32 → (Nat → Int32) → Int32 → Int32 → (Nat → Int32) → (Nat → Int32) → (Nat → Int32) → Option (Int32 × (Nat → Int32) × (Nat → Int32) × (Nat → Int32))} (C : cx D [(k 1, .int), (k 2, .int), (k 3, .int), (k 4, .int), (k 5, .boolean), (k 6, .int), (k 8, .int), (k 9, .int), (k 11, .long)] R_B b_B_state 5 (some .int) A p s m args meth c) (hrec47 : H_B_state_47 p l e s m args below meth c D A a k sg od go ta we ro sp qr qs rec47) : H_B_state_47 p l e s m args below meth c D A a k sg od go ta we ro sp qr qs (J_B_state_47 rec47) := by
  obtain ⟨hx, hb, hr, hml, hown, ht, hlk, hA, hK⟩ := id C
  intro x1 x2 x3 lab cc ci sd oe fp r h H locs ls hP hD hS hl
  unfold J_B_state_47 at h
  refine lv_iload_n hx hb d_B_state_47 rfl (lv_at hl 3 rfl) ?_
  refine lv_aload_n hx hb d_B_state_48 rfl (lv_at hl 0 rfl) ?_
  refine va_get (D := D) (ci := 0) (v := .int cc) (C := R_B) (T := F_B) (N := 11) hx hb ht iC_B hown hK hP 0 rfl rfl 2 (by decide) (ht _ ix_38) (fun _ h9 => h9) rfl d_B_state_49 ?_
  refine lv_icmp_ge (tgt := 89) hx hb d_B_state_52 (by decide) (fun c_1 => ?_) (fun c_1 => ?_)
  · have h := ite_T c_1 h
    refine lv_iload_n hx hb d_B_state_89 rfl (lv_at hl 2 rfl) ?_
    cases h
    exact W.iret hx hb hr (fun t ht hW => ⟨⟨_, (), rfl, rfl, by rw [ht]; exact hP, va_K.moved hW.alike hK, hD⟩, hS.F ht⟩) hS.2.2 d_B_state_90 hlk
  · have h := ite_F c_1 h
    refine lv_iload_n hx hb d_B_state_55 rfl (lv_at hl 1 rfl) ?_
    refine lv_iload_n hx hb d_B_state_56 rfl (lv_at hl 3 rfl) ?_
    refine lv_ishr hx hb d_B_state_57 ?_
    refine lv_iconst (v := 1) hx hb d_B_state_58 (by decide) ?_
    refine lv_iand hx hb d_B_state_59 ?_
    refine lv_if_ne (tgt := 67) hx hb d_B_state_60 (by decide) (fun c_2 => ?_) (fun c_2 => ?_)
    · have h := ite_F c_2 h
      refine lv_iconst (v := 0) hx hb d_B_state_67 (by decide) ?_
      exact (k_B_state_68 C hrec47) _ _ _ _ _ _ _ _ _ _ _ h _ _ _ hP hD hS (lv_sub hl [0, 1, 2, 3] rfl)
    · have h := ite_T c_2 h
      refine lv_iconst (v := 1) hx hb d_B_state_63 (by decide) ?_
      refine lv_goto (tgt := 68) hx hb d_B_state_64 (by decide) ?_
      exact (k_B_state_68 C hrec47) _ _ _ _ _ _ _ _ _ _ _ h _ _ _ hP hD hS (lv_sub hl [0, 1, 2, 3] rfl)
theorem k_B_state_47_L {p : Program} {l : Launch} {e : Env} {s : State} {m : MethodId} {args : Array Value} {below : List Frame} {meth : Method} {c : Code} {D : va_G} {A : Nat → Prop} {a : Nat → Nat} {k : Nat → ClassId} {sg : Nat → Int32} {od : Nat → Int32} {go : Nat → Int32} {ta : Nat → Int32} {we : Int32} {ro : Nat → Int64} {sp : Nat → Int64} {qr : Nat} {qs : Nat} (C : cx D [(k 1, .int), (k 2, .int), (k 3, .int), (k 4, .int), (k 5, .boolean), (k 6, .int), (k 8, .int), (k 9, .int), (k 11, .long)] R_B b_B_state 5 (some .int) A p s m args meth c) : ∀ n : Nat, H_B_state_47 p l e s m args below meth c D A a k sg od go ta we ro sp qr qs (L_B_state_47 n)
  | 0 => fun _ _ _ _ _ _ _ _ _ _ h => nomatch h
  | n + 1 => k_B_state_47 C (k_B_state_47_L C n)
set_option maxHeartbeats 4000000 in
set_option maxRecDepth 100000 in
theorem k_B_state_0 {p : Program} {l : Launch} {e : Env} {s : State} {m : MethodId} {args : Array Value} {below : List Frame} {meth : Method} {c : Code} {D : va_G} {A : Nat → Prop} {a : Nat → Nat} {k : Nat → ClassId} {sg : Nat → Int32} {od : Nat → Int32} {go : Nat → Int32} {ta : Nat → Int32} {we : Int32} {ro : Nat → Int64} {sp : Nat → Int64} {qr : Nat} {qs : Nat} (C : cx D [(k 1, .int), (k 2, .int), (k 3, .int), (k 4, .int), (k 5, .boolean), (k 6, .int), (k 8, .int), (k 9, .int), (k 11, .long)] R_B b_B_state 5 (some .int) A p s m args meth c) : H_B_state_0 p l e s m args below meth c D A a k sg od go ta we ro sp qr qs (J_B_state_0) := by
  obtain ⟨hx, hb, hr, hml, hown, ht, hlk, hA, hK⟩ := id C
  intro x1 lab cc ci sd oe fp r h H locs ls hP hD hS hl
  unfold J_B_state_0 at h
  refine lv_iload_n hx hb d_B_state_0 rfl (lv_at hl 1 rfl) ?_
  refine lv_if_lt (tgt := 21) hx hb d_B_state_1 (by decide) (fun c_1 => ?_) (fun c_1 => ?_)
  · have h := ite_T c_1 h
    refine lv_iconst (v := (-1)) hx hb d_B_state_21 (by decide) ?_
    cases h
    exact W.iret hx hb hr (fun t ht hW => ⟨⟨_, (), rfl, rfl, by rw [ht]; exact hP, va_K.moved hW.alike hK, hD⟩, hS.F ht⟩) hS.2.2 d_B_state_22 hlk
  · have h := ite_F c_1 h
    refine lv_iload_n hx hb d_B_state_4 rfl (lv_at hl 1 rfl) ?_
    refine lv_iconst (v := 1) hx hb d_B_state_5 (by decide) ?_
    refine lv_aload_n hx hb d_B_state_6 rfl (lv_at hl 0 rfl) ?_
    refine va_get (D := D) (ci := 0) (v := .int cc) (C := R_B) (T := F_B) (N := 11) hx hb ht iC_B hown hK hP 0 rfl rfl 2 (by decide) (ht _ ix_38) (fun _ h9 => h9) rfl d_B_state_7 ?_
    refine lv_ishl hx hb d_B_state_10 ?_
    refine lv_icmp_ge (tgt := 21) hx hb d_B_state_11 (by decide) (fun c_2 => ?_) (fun c_2 => ?_)
    · have h := ite_T c_2 h
      refine lv_iconst (v := (-1)) hx hb d_B_state_21 (by decide) ?_
      cases h
      exact W.iret hx hb hr (fun t ht hW => ⟨⟨_, (), rfl, rfl, by rw [ht]; exact hP, va_K.moved hW.alike hK, hD⟩, hS.F ht⟩) hS.2.2 d_B_state_22 hlk
    · have h := ite_F c_2 h
      refine lv_aload_n hx hb d_B_state_14 rfl (lv_at hl 0 rfl) ?_
      obtain ⟨v_3, e_3, h⟩ := bd_some h
      refine go_Vi (r := v_3.1) (As := []) (rest := []) (wc := (wB a k lab sg cc ci od sd go ta we oe fp ro sp qr qs)) (wr := []) (w1 := (wB a k lab sg cc ci od v_3.2 go ta we oe fp ro sp qr qs)) (w2 := (wB a k lab sg cc ci od v_3.2 go ta we oe fp ro sp qr qs)) (tc := [(k 1, .int), (k 2, .int), (k 3, .int), (k 4, .int), (k 5, .boolean), (k 6, .int), (k 8, .int), (k 9, .int), (k 11, .long)]) hx hb hml hown ht (c_B_isCode l D a k H.size lab sg cc ci od sd go ta we oe fp ro sp qr qs v_3 e_3) g_B_67 ⟨rfl, rfl⟩ (n := 0) (by decide +kernel) ⟨(Nat.le_of_ble_eq_true rfl), (Nat.le_of_ble_eq_true rfl)⟩ hP hD hK hS hA ⟨Nat.zero_le _, Nat.zero_le _⟩ [0, 1, 2, 3, 4, 5, 6, 7, 8, 9, 10, 11, 12] [] [0, 1, 2, 3, 4, 5, 6, 7, 8] [0, 1, 2, 3, 4, 5, 6, 7, 8, 9, 10, 11, 12] rfl rfl rfl rfl (by decide) (by decide) (by decide) rfl (by decide) 0 rfl rfl rfl rfl rfl hl.1 (Nat.le_of_ble_eq_true rfl) d_B_state_15 (fun H locs hP hD hS => ?_)
      refine lv_if_ne (tgt := 23) hx hb d_B_state_18 (by decide) (fun c_4 => ?_) (fun c_4 => ?_)
      · have h := ite_F c_4 h
        refine lv_aload_n hx hb d_B_state_23 rfl (lv_at hl 0 rfl) ?_
        refine va_get (D := D) (ci := 0) (v := .ref (a 7)) (C := R_B) (T := F_B) (N := 11) hx hb ht iC_B hown hK hP 0 rfl rfl 8 (by decide) (ht _ ix_71) (fun _ h9 => h9) rfl d_B_state_24 ?_
        refine lv_aload_n hx hb d_B_state_27 rfl (lv_at hl 0 rfl) ?_
        refine va_get (D := D) (ci := 0) (v := .ref (a 1)) (C := R_B) (T := F_B) (N := 11) hx hb ht iC_B hown hK hP 0 rfl rfl 0 (by decide) (ht _ ix_43) (fun _ h9 => h9) rfl d_B_state_28 ?_
        refine lv_iconst (v := 4) hx hb d_B_state_31 (by decide) ?_
        refine lv_aload_n hx hb d_B_state_32 rfl (lv_at hl 0 rfl) ?_
        refine va_get (D := D) (ci := 0) (v := .int cc) (C := R_B) (T := F_B) (N := 11) hx hb ht iC_B hown hK hP 0 rfl rfl 2 (by decide) (ht _ ix_38) (fun _ h9 => h9) rfl d_B_state_33 ?_
        refine lv_imul hx hb d_B_state_36 ?_
        obtain ⟨v_5, e_5, h⟩ := bd_some h
        refine go_Vv (As := [.ref (a 1), .int ((4 : Int32) * cc)]) (rest := []) (wc := (wL a k oe fp lab)) (wr := [((a 0), .inr (0, [.ref (a 1), .ref (a 2), .int cc, .int ci, .ref (a 3), .ref (a 4), .ref (a 5), .ref (a 6), .ref (a 7), .ref (a 10), .int we])), ((a 2), .inl (k 2, 10, .inl sg)), ((a 3), .inl (k 3, 10, .inl od)), ((a 4), .inl (k 4, 100, .inl v_3.2)), ((a 5), .inl (k 5, 10, .inl go)), ((a 6), .inl (k 6, 330, .inl ta)), ((a 10), .inr (2, [.ref qr, .ref qs])), (qr, .inl (k 11, 133, .inr (.inl ro))), (qs, .inl (k 11, 133, .inr (.inl sp)))]) (w1 := (wL a k v_5.1 v_5.2 lab)) (w2 := (wB a k lab sg cc ci od v_3.2 go ta we v_5.1 v_5.2 ro sp qr qs)) (tc := [(k 8, .int), (k 9, .int), (k 1, .int)]) hx hb hml hown ht (c_W_followLabels l D a k H.size ((4 : Int32) * cc) oe fp lab v_5 e_5) g_B_109 ⟨rfl, rfl⟩ (n := 2) (by decide +kernel) ⟨(Nat.le_of_ble_eq_true rfl), (Nat.le_of_ble_eq_true rfl)⟩ hP hD hK hS hA ⟨Nat.zero_le _, Nat.zero_le _⟩ [7, 8, 9, 1] [0, 2, 3, 4, 5, 6, 10, 11, 12] [6, 7, 0] [0, 12, 1, 2, 3, 4, 5, 9, 10, 11, 6, 7, 8] rfl rfl rfl rfl (by decide) (by decide) (by decide) rfl (by decide) 0 rfl rfl rfl rfl rfl hl.1 (Nat.le_of_ble_eq_true rfl) d_B_state_37 (fun H locs hP hD hS => ?_)
        refine lv_aload_n hx hb d_B_state_40 rfl (lv_at hl 0 rfl) ?_
        refine va_get (D := D) (ci := 0) (v := .int ci) (C := R_B) (T := F_B) (N := 11) hx hb ht iC_B hown hK hP 0 rfl rfl 3 (by decide) (ht _ ix_54) (fun _ h9 => h9) rfl d_B_state_41 ?_
        refine lv_istore_n (lv' := [(2, .int ci), (0, .ref (a 0)), (1, .int x1)]) hx hb d_B_state_44 rfl hl (by decide) rfl (fun ls hl => ?_)
        refine lv_iconst (v := 0) hx hb d_B_state_45 (by decide) ?_
        refine lv_istore_n (lv' := [(3, .int (0 : Int32)), (2, .int ci), (0, .ref (a 0)), (1, .int x1)]) hx hb d_B_state_46 rfl hl (by decide) rfl (fun ls hl => ?_)
        exact (k_B_state_47_L C fu) _ _ _ _ _ _ _ _ _ _ h _ _ _ hP hD hS (lv_sub hl [2, 3, 1, 0] rfl)
      · have h := ite_T c_4 h
        refine lv_iconst (v := (-1)) hx hb d_B_state_21 (by decide) ?_
        cases h
        exact W.iret hx hb hr (fun t ht hW => ⟨⟨_, (), rfl, rfl, by rw [ht]; exact hP, va_K.moved hW.alike hK, hD⟩, hS.F ht⟩) hS.2.2 d_B_state_22 hlk
set_option maxRecDepth 20000 in
theorem c_B_state (l : Launch) (D : va_G) (a : Nat → Nat) (k : Nat → ClassId) (sz : Nat) (x1 : Int32) (lab : Nat → Int32) (sg : Nat → Int32) (cc : Int32) (ci : Int32) (od : Nat → Int32) (sd : Nat → Int32) (go : Nat → Int32) (ta : Nat → Int32) (we : Int32) (oe : Nat → Int32) (fp : Nat → Int32) (ro : Nat → Int64) (sp : Nat → Int64) (qr : Nat) (qs : Nat) (r : Int32 × (Nat → Int32) × (Nat → Int32) × (Nat → Int32)) (h : F_B_state x1 lab cc ci sd oe fp = some r) : Met l y_B_state (Cond.code y_B_state b_B_state 5 (some .int) :: lw_g) (rm_B_state) (va_Pc [.ref (a 0), .int x1] (pcW D [(k 1, .int), (k 2, .int), (k 3, .int), (k 4, .int), (k 5, .boolean), (k 6, .int), (k 8, .int), (k 9, .int), (k 11, .long)] (wB a k lab sg cc ci od sd go ta we oe fp ro sp qr qs) sz)) (qc_B_state D (va_A (wB a k lab sg cc ci od sd go ta we oe fp ro sp qr qs) sz) a k lab sg cc ci od go ta we ro sp qr qs r) 0 0 (va_A (wB a k lab sg cc ci od sd go ta we oe fp ro sp qr qs) sz) := by
  refine Met.ofW (cc := b_B_state) (maxL := 5) (ret := (some .int)) (by decide) rfl ?_
  intro p e s m args below meth c s₁ B hml hv
  obtain ⟨rfl, hsz, hP, hK, hD0⟩ := hv
  have hts := atoms_spec (ws := Cond.code y_B_state b_B_state 5 (some .int) :: lw_g) B.pre
  subst hsz
  have hD := hD0.self (sz := s.heap.size)
  have hl := lv_entry ([.ref (a 0), .int x1]) (n := 5) (Nat.le_of_ble_eq_true rfl)
  rw [lg_entry_eq]
  generalize (lg_sl ([.ref (a 0), .int x1]) ++ List.replicate (5 - (lg_sl ([.ref (a 0), .int x1])).length) Slot.unset).toArray = ls at hl ⊢
  exact k_B_state_0 ⟨B.exec, B.bytes, B.returns, hml, findClass_of_methodNamed B.named, fun w hw => hts w (List.mem_cons_of_mem _ hw), B.notSynchronized, fun q h => Or.inr h, hK⟩ _ _ _ _ _ _ _ _ h _ _ _ hP hD va_S.rf hl

def rm_B_look : Room := { frames := 2, cells := 0, slots := 0, locals := 43 }
def qc_B_look (D : va_G) (A : Nat → Prop) (a : Nat → Nat) (k : Nat → ClassId) (lab : Nat → Int32) (sg : Nat → Int32) (cc : Int32) (ci : Int32) (od : Nat → Int32) (sd : Nat → Int32) (go : Nat → Int32) (ta : Nat → Int32) (we : Int32) (oe : Nat → Int32) (fp : Nat → Int32) (ro : Nat → Int64) (sp : Nat → Int64) (qr : Nat) (qs : Nat) (r : Int32) : Array Value → State → Outcome → State → Prop := va_Qi (fun (r1 : Int32) (_ : Unit) => r1 = r) (poW D [(k 1, .int), (k 2, .int), (k 3, .int), (k 4, .int), (k 5, .boolean), (k 6, .int), (k 8, .int), (k 9, .int), (k 11, .long)] (wB a k lab sg cc ci od sd go ta we oe fp ro sp qr qs) A) A
def J_B_look_43 (x1 : Int32) (x2 : Int32) (lab : Nat → Int32) (sg : Nat → Int32) (cc : Int32) (ci : Int32) : Option (Int32) :=
  (if x2 = (4 : Int32) then (if inb x1 10 then some ((sg x1.toNatClampNeg)) else none) else some ((-1000 : Int32)))
def J_B_look_0 (x1 : Int32) (x2 : Int32) (lab : Nat → Int32) (sg : Nat → Int32) (cc : Int32) (ci : Int32) : Option (Int32) :=
  (if x1 = (-1 : Int32) then (Option.bind (F_B_lookAtAll x2 sg cc ci) (fun v_7 => some (v_7))) else (Option.bind (F_B_isCrossing x1 cc) (fun v_2 => (if v_2 = 0 then some ((-1000 : Int32)) else (if x2 < 0 then J_B_look_43 x1 x2 lab sg cc ci else (if (4 : Int32) ≤ x2 then J_B_look_43 x1 x2 lab sg cc ci else (if inb (((4 : Int32) * x1) + x2) 40 then some ((lab (((4 : Int32) * x1) + x2).toNatClampNeg)) else none)))))))
def F_B_look (x1 : Int32) (x2 : Int32) (lab : Nat → Int32) (sg : Nat → Int32) (cc : Int32) (ci : Int32) : Option (Int32) := J_B_look_0 x1 x2 lab sg cc ci
def H_B_look_43 (p : Program) (l : Launch) (e : Env) (s : State) (m : MethodId) (args : Array Value) (below : List Frame) (meth : Method) (c : Code) (D : va_G) (A : Nat → Prop) (a : Nat → Nat) (k : Nat → ClassId) (od : Nat → Int32) (sd : Nat → Int32) (go : Nat → Int32) (ta : Nat → Int32) (we : Int32) (oe : Nat → Int32) (fp : Nat → Int32) (ro : Nat → Int64) (sp : Nat → Int64) (qr : Nat) (qs : Nat) (f : Int32 → Int32 → (Nat → Int32) → (Nat → Int32) → Int32 → Int32 → Option (Int32)) : Prop := ∀ (x1 : Int32) (x2 : Int32) (lab : Nat → Int32) (sg : Nat → Int32) (cc : Int32) (ci : Int32) (r : Int32), f x1 x2 lab sg cc ci = some r → ∀ (H : Heap) (locs : List Loc) (ls : Array Slot), va_P D classes (wB a k lab sg cc ci od sd go ta we oe fp ro sp qr qs) H → va_D A (wB a k lab sg cc ci od sd go ta we oe fp ro sp qr qs) → va_S A s.heap H locs → lv_has ls 3 [(0, .ref (a 0)), (1, .int x1), (2, .int x2)] → W p l e (rm_B_look) s m args below meth c H locs 0 0 (MQ below (qc_B_look D A a k lab sg cc ci od sd go ta we oe fp ro sp qr qs r) args s 0 0 A) (F0 m 43 ls [])
def H_B_look_0 (p : Program) (l : Launch) (e : Env) (s : State) (m : MethodId) (args : Array Value) (below : List Frame) (meth : Method) (c : Code) (D : va_G) (A : Nat → Prop) (a : Nat → Nat) (k : Nat → ClassId) (od : Nat → Int32) (sd : Nat → Int32) (go : Nat → Int32) (ta : Nat → Int32) (we : Int32) (oe : Nat → Int32) (fp : Nat → Int32) (ro : Nat → Int64) (sp : Nat → Int64) (qr : Nat) (qs : Nat) (f : Int32 → Int32 → (Nat → Int32) → (Nat → Int32) → Int32 → Int32 → Option (Int32)) : Prop := ∀ (x1 : Int32) (x2 : Int32) (lab : Nat → Int32) (sg : Nat → Int32) (cc : Int32) (ci : Int32) (r : Int32), f x1 x2 lab sg cc ci = some r → ∀ (H : Heap) (locs : List Loc) (ls : Array Slot), va_P D classes (wB a k lab sg cc ci od sd go ta we oe fp ro sp qr qs) H → va_D A (wB a k lab sg cc ci od sd go ta we oe fp ro sp qr qs) → va_S A s.heap H locs → lv_has ls 3 [(0, .ref (a 0)), (1, .int x1), (2, .int x2)] → W p l e (rm_B_look) s m args below meth c H locs 0 0 (MQ below (qc_B_look D A a k lab sg cc ci od sd go ta we oe fp ro sp qr qs r) args s 0 0 A) (F0 m 0 ls [])
set_option maxHeartbeats 4000000 in
set_option maxRecDepth 100000 in
theorem k_B_look_43 {p : Program} {l : Launch} {e : Env} {s : State} {m : MethodId} {args : Array Value} {below : List Frame} {meth : Method} {c : Code} {D : va_G} {A : Nat → Prop} {a : Nat → Nat} {k : Nat → ClassId} {od : Nat → Int32} {sd : Nat → Int32} {go : Nat → Int32} {ta : Nat → Int32} {we : Int32} {oe : Nat → Int32} {fp : Nat → Int32} {ro : Nat → Int64} {sp : Nat → Int64} {qr : Nat} {qs : Nat} (C : cx D [(k 1, .int), (k 2, .int), (k 3, .int), (k 4, .int), (k 5, .boolean), (k 6, .int), (k 8, .int), (k 9, .int), (k 11, .long)] R_B b_B_look 3 (some .int) A p s m args meth c) : H_B_look_43 p l e s m args below meth c D A a k od sd go ta we oe fp ro sp qr qs (J_B_look_43) := by
  obtain ⟨hx, hb, hr, hml, hown, ht, hlk, hA, hK⟩ := id C
  intro x1 x2 lab sg cc ci r h H locs ls hP hD hS hl
  unfold J_B_look_43 at h
  refine lv_iload_n hx hb d_B_look_43 rfl (lv_at hl 2 rfl) ?_
  refine lv_iconst (v := 4) hx hb d_B_look_44 (by decide) ?_
  refine lv_icmp_ne (tgt := 57) hx hb d_B_look_45 (by decide) (fun c_1 => ?_) (fun c_1 => ?_)
  · have h := ite_F c_1 h
    refine lv_sipush (v := (-1000)) hx hb d_B_look_57 (by decide) ?_
    cases h
    exact W.iret hx hb hr (fun t ht hW => ⟨⟨_, (), rfl, rfl, by rw [ht]; exact hP, va_K.moved hW.alike hK, hD⟩, hS.F ht⟩) hS.2.2 d_B_look_60 hlk
  · have h := ite_T c_1 h
    refine lv_aload_n hx hb d_B_look_48 rfl (lv_at hl 0 rfl) ?_
    refine va_get (D := D) (ci := 0) (v := .ref (a 2)) (C := R_B) (T := F_B) (N := 11) hx hb ht iC_B hown hK hP 0 rfl rfl 1 (by decide) (ht _ ix_53) (fun _ h9 => h9) rfl d_B_look_49 ?_
    refine lv_iload_n hx hb d_B_look_52 rfl (lv_at hl 1 rfl) ?_
    obtain ⟨g_2, h⟩ := gd_some h
    refine va_iald hx hb hK hP 2 1 rfl rfl (inb_in g_2) d_B_look_53 ?_
    refine lv_goto (tgt := 60) hx hb d_B_look_54 (by decide) ?_
    cases h
    exact W.iret hx hb hr (fun t ht hW => ⟨⟨_, (), rfl, rfl, by rw [ht]; exact hP, va_K.moved hW.alike hK, hD⟩, hS.F ht⟩) hS.2.2 d_B_look_60 hlk
set_option maxHeartbeats 4000000 in
set_option maxRecDepth 100000 in
theorem k_B_look_0 {p : Program} {l : Launch} {e : Env} {s : State} {m : MethodId} {args : Array Value} {below : List Frame} {meth : Method} {c : Code} {D : va_G} {A : Nat → Prop} {a : Nat → Nat} {k : Nat → ClassId} {od : Nat → Int32} {sd : Nat → Int32} {go : Nat → Int32} {ta : Nat → Int32} {we : Int32} {oe : Nat → Int32} {fp : Nat → Int32} {ro : Nat → Int64} {sp : Nat → Int64} {qr : Nat} {qs : Nat} (C : cx D [(k 1, .int), (k 2, .int), (k 3, .int), (k 4, .int), (k 5, .boolean), (k 6, .int), (k 8, .int), (k 9, .int), (k 11, .long)] R_B b_B_look 3 (some .int) A p s m args meth c) : H_B_look_0 p l e s m args below meth c D A a k od sd go ta we oe fp ro sp qr qs (J_B_look_0) := by
  obtain ⟨hx, hb, hr, hml, hown, ht, hlk, hA, hK⟩ := id C
  intro x1 x2 lab sg cc ci r h H locs ls hP hD hS hl
  unfold J_B_look_0 at h
  refine lv_iload_n hx hb d_B_look_0 rfl (lv_at hl 1 rfl) ?_
  refine lv_iconst (v := (-1)) hx hb d_B_look_1 (by decide) ?_
  refine lv_icmp_ne (tgt := 11) hx hb d_B_look_2 (by decide) (fun c_1 => ?_) (fun c_1 => ?_)
  · have h := ite_F c_1 h
    refine lv_aload_n hx hb d_B_look_11 rfl (lv_at hl 0 rfl) ?_
    refine lv_iload_n hx hb d_B_look_12 rfl (lv_at hl 1 rfl) ?_
    obtain ⟨v_2, e_2, h⟩ := bd_some h
    refine go_Vi (r := v_2) (As := [.int x1]) (rest := []) (wc := (wB a k lab sg cc ci od sd go ta we oe fp ro sp qr qs)) (wr := []) (w1 := (wB a k lab sg cc ci od sd go ta we oe fp ro sp qr qs)) (w2 := (wB a k lab sg cc ci od sd go ta we oe fp ro sp qr qs)) (tc := [(k 1, .int), (k 2, .int), (k 3, .int), (k 4, .int), (k 5, .boolean), (k 6, .int), (k 8, .int), (k 9, .int), (k 11, .long)]) hx hb hml hown ht (c_B_isCrossing l D a k H.size x1 lab sg cc ci od sd go ta we oe fp ro sp qr qs v_2 e_2) g_B_64 ⟨rfl, rfl⟩ (n := 1) (by decide +kernel) ⟨(Nat.le_of_ble_eq_true rfl), (Nat.le_of_ble_eq_true rfl)⟩ hP hD hK hS hA ⟨Nat.zero_le _, Nat.zero_le _⟩ [0, 1, 2, 3, 4, 5, 6, 7, 8, 9, 10, 11, 12] [] [0, 1, 2, 3, 4, 5, 6, 7, 8] [0, 1, 2, 3, 4, 5, 6, 7, 8, 9, 10, 11, 12] rfl rfl rfl rfl (by decide) (by decide) (by decide) rfl (by decide) 0 rfl rfl rfl rfl rfl hl.1 (Nat.le_of_ble_eq_true rfl) d_B_look_13 (fun H locs hP hD hS => ?_)
    refine lv_if_ne (tgt := 23) hx hb d_B_look_16 (by decide) (fun c_3 => ?_) (fun c_3 => ?_)
    · have h := ite_F c_3 h
      refine lv_iload_n hx hb d_B_look_23 rfl (lv_at hl 2 rfl) ?_
      refine lv_if_lt (tgt := 43) hx hb d_B_look_24 (by decide) (fun c_4 => ?_) (fun c_4 => ?_)
      · have h := ite_T c_4 h
        exact (k_B_look_43 C) _ _ _ _ _ _ _ h _ _ _ hP hD hS (lv_sub hl [0, 1, 2] rfl)
      · have h := ite_F c_4 h
        refine lv_iload_n hx hb d_B_look_27 rfl (lv_at hl 2 rfl) ?_
        refine lv_iconst (v := 4) hx hb d_B_look_28 (by decide) ?_
        refine lv_icmp_ge (tgt := 43) hx hb d_B_look_29 (by decide) (fun c_5 => ?_) (fun c_5 => ?_)
        · have h := ite_T c_5 h
          exact (k_B_look_43 C) _ _ _ _ _ _ _ h _ _ _ hP hD hS (lv_sub hl [0, 1, 2] rfl)
        · have h := ite_F c_5 h
          refine lv_aload_n hx hb d_B_look_32 rfl (lv_at hl 0 rfl) ?_
          refine va_get (D := D) (ci := 0) (v := .ref (a 1)) (C := R_B) (T := F_B) (N := 11) hx hb ht iC_B hown hK hP 0 rfl rfl 0 (by decide) (ht _ ix_43) (fun _ h9 => h9) rfl d_B_look_33 ?_
          refine lv_iconst (v := 4) hx hb d_B_look_36 (by decide) ?_
          refine lv_iload_n hx hb d_B_look_37 rfl (lv_at hl 1 rfl) ?_
          refine lv_imul hx hb d_B_look_38 ?_
          refine lv_iload_n hx hb d_B_look_39 rfl (lv_at hl 2 rfl) ?_
          refine lv_iadd hx hb d_B_look_40 ?_
          obtain ⟨g_6, h⟩ := gd_some h
          refine va_iald hx hb hK hP 1 0 rfl rfl (inb_in g_6) d_B_look_41 ?_
          cases h
          exact W.iret hx hb hr (fun t ht hW => ⟨⟨_, (), rfl, rfl, by rw [ht]; exact hP, va_K.moved hW.alike hK, hD⟩, hS.F ht⟩) hS.2.2 d_B_look_42 hlk
    · have h := ite_T c_3 h
      refine lv_sipush (v := (-1000)) hx hb d_B_look_19 (by decide) ?_
      cases h
      exact W.iret hx hb hr (fun t ht hW => ⟨⟨_, (), rfl, rfl, by rw [ht]; exact hP, va_K.moved hW.alike hK, hD⟩, hS.F ht⟩) hS.2.2 d_B_look_22 hlk
  · have h := ite_T c_1 h
    refine lv_aload_n hx hb d_B_look_5 rfl (lv_at hl 0 rfl) ?_
    refine lv_iload_n hx hb d_B_look_6 rfl (lv_at hl 2 rfl) ?_
    obtain ⟨v_7, e_7, h⟩ := bd_some h
    refine go_Vi (r := v_7) (As := [.int x2]) (rest := []) (wc := (wB a k lab sg cc ci od sd go ta we oe fp ro sp qr qs)) (wr := []) (w1 := (wB a k lab sg cc ci od sd go ta we oe fp ro sp qr qs)) (w2 := (wB a k lab sg cc ci od sd go ta we oe fp ro sp qr qs)) (tc := [(k 1, .int), (k 2, .int), (k 3, .int), (k 4, .int), (k 5, .boolean), (k 6, .int), (k 8, .int), (k 9, .int), (k 11, .long)]) hx hb hml hown ht (c_B_lookAtAll l D a k H.size x2 lab sg cc ci od sd go ta we oe fp ro sp qr qs v_7 e_7) g_B_117 ⟨rfl, rfl⟩ (n := 1) (by decide +kernel) ⟨(Nat.le_of_ble_eq_true rfl), (Nat.le_of_ble_eq_true rfl)⟩ hP hD hK hS hA ⟨Nat.zero_le _, Nat.zero_le _⟩ [0, 1, 2, 3, 4, 5, 6, 7, 8, 9, 10, 11, 12] [] [0, 1, 2, 3, 4, 5, 6, 7, 8] [0, 1, 2, 3, 4, 5, 6, 7, 8, 9, 10, 11, 12] rfl rfl rfl rfl (by decide) (by decide) (by decide) rfl (by decide) 0 rfl rfl rfl rfl rfl hl.1 (Nat.le_of_ble_eq_true rfl) d_B_look_7 (fun H locs hP hD hS => ?_)
    cases h
    exact W.iret hx hb hr (fun t ht hW => ⟨⟨_, (), rfl, rfl, by rw [ht]; exact hP, va_K.moved hW.alike hK, hD⟩, hS.F ht⟩) hS.2.2 d_B_look_10 hlk
set_option maxRecDepth 20000 in
theorem c_B_look (l : Launch) (D : va_G) (a : Nat → Nat) (k : Nat → ClassId) (sz : Nat) (x1 : Int32) (x2 : Int32) (lab : Nat → Int32) (sg : Nat → Int32) (cc : Int32) (ci : Int32) (od : Nat → Int32) (sd : Nat → Int32) (go : Nat → Int32) (ta : Nat → Int32) (we : Int32) (oe : Nat → Int32) (fp : Nat → Int32) (ro : Nat → Int64) (sp : Nat → Int64) (qr : Nat) (qs : Nat) (r : Int32) (h : F_B_look x1 x2 lab sg cc ci = some r) : Met l y_B_look (Cond.code y_B_look b_B_look 3 (some .int) :: lw_g) (rm_B_look) (va_Pc [.ref (a 0), .int x1, .int x2] (pcW D [(k 1, .int), (k 2, .int), (k 3, .int), (k 4, .int), (k 5, .boolean), (k 6, .int), (k 8, .int), (k 9, .int), (k 11, .long)] (wB a k lab sg cc ci od sd go ta we oe fp ro sp qr qs) sz)) (qc_B_look D (va_A (wB a k lab sg cc ci od sd go ta we oe fp ro sp qr qs) sz) a k lab sg cc ci od sd go ta we oe fp ro sp qr qs r) 0 0 (va_A (wB a k lab sg cc ci od sd go ta we oe fp ro sp qr qs) sz) := by
  refine Met.ofW (cc := b_B_look) (maxL := 3) (ret := (some .int)) (by decide) rfl ?_
  intro p e s m args below meth c s₁ B hml hv
  obtain ⟨rfl, hsz, hP, hK, hD0⟩ := hv
  have hts := atoms_spec (ws := Cond.code y_B_look b_B_look 3 (some .int) :: lw_g) B.pre
  subst hsz
  have hD := hD0.self (sz := s.heap.size)
  have hl := lv_entry ([.ref (a 0), .int x1, .int x2]) (n := 3) (Nat.le_of_ble_eq_true rfl)
  rw [lg_entry_eq]
  generalize (lg_sl ([.ref (a 0), .int x1, .int x2]) ++ List.replicate (3 - (lg_sl ([.ref (a 0), .int x1, .int x2])).length) Slot.unset).toArray = ls at hl ⊢
  exact k_B_look_0 ⟨B.exec, B.bytes, B.returns, hml, findClass_of_methodNamed B.named, fun w hw => hts w (List.mem_cons_of_mem _ hw), B.notSynchronized, fun q h => Or.inr h, hK⟩ _ _ _ _ _ _ _ h _ _ _ hP hD va_S.rf hl

def rm_B_resolve : Room := { frames := 4, cells := 0, slots := 0, locals := 85 }
def qc_B_resolve (D : va_G) (A : Nat → Prop) (a : Nat → Nat) (k : Nat → ClassId) (go : Nat → Int32) (ta : Nat → Int32) (oe : Nat → Int32) (fp : Nat → Int32) (ro : Nat → Int64) (sp : Nat → Int64) (qr : Nat) (qs : Nat) (r : Int32 × (Nat → Int32) × (Nat → Int32) × Int32 × Int32 × (Nat → Int32) × (Nat → Int32) × Int32) : Array Value → State → Outcome → State → Prop := va_Qi (fun (r1 : Int32) (_ : Unit) => r1 = r.1) (poW D [(k 1, .int), (k 2, .int), (k 3, .int), (k 4, .int), (k 5, .boolean), (k 6, .int), (k 8, .int), (k 9, .int), (k 11, .long)] (wB a k r.2.1 r.2.2.1 r.2.2.2.1 r.2.2.2.2.1 r.2.2.2.2.2.1 r.2.2.2.2.2.2.1 go ta r.2.2.2.2.2.2.2 oe fp ro sp qr qs) A) A
def J_B_resolve_122 (x1 : Int32) (x5 : Int32) (x6 : Int32) (x7 : Int32) (x8 : Int32) (y0 : Int32) (y1 : Int32) (lab : Nat → Int32) (sg : Nat → Int32) (cc : Int32) (ci : Int32) (od : Nat → Int32) (sd : Nat → Int32) (we : Int32) : Option (Int32 × (Nat → Int32) × (Nat → Int32) × Int32 × Int32 × (Nat → Int32) × (Nat → Int32) × Int32) :=
  (if (ci + (y1 + y0)) ≤ (9 : Int32) then (Option.bind (F_B_unite x5 x6 lab cc) (fun v_2 => (Option.bind (F_B_unite x7 x8 v_2 cc) (fun v_3 => (Option.bind (F_B_carry x1 (cc - (1 : Int32)) v_3 sg) (fun v_4 => (Option.bind (F_B_orderAsGiven od we) (fun v_5 => some ((1 : Int32), v_4.1, v_4.2, (cc - (1 : Int32)), (ci + (y1 + y0)), v_5.1, sd, v_5.2))))))))) else some ((0 : Int32), lab, sg, cc, ci, od, sd, we))
def J_B_resolve_110 (x1 : Int32) (x5 : Int32) (x6 : Int32) (x7 : Int32) (x8 : Int32) (y0 : Int32) (lab : Nat → Int32) (sg : Nat → Int32) (cc : Int32) (ci : Int32) (od : Nat → Int32) (sd : Nat → Int32) (we : Int32) : Option (Int32 × (Nat → Int32) × (Nat → Int32) × Int32 × Int32 × (Nat → Int32) × (Nat → Int32) × Int32) :=
  (if x7 = x8 then J_B_resolve_122 x1 x5 x6 x7 x8 (1 : Int32) y0 lab sg cc ci od sd we else J_B_resolve_122 x1 x5 x6 x7 x8 (0 : Int32) y0 lab sg cc ci od sd we)
def J_B_resolve_30 (x1 : Int32) (x3 : Int32) (y0 : Int32) (lab : Nat → Int32) (sg : Nat → Int32) (cc : Int32) (ci : Int32) (od : Nat → Int32) (sd : Nat → Int32) (we : Int32) : Option (Int32 × (Nat → Int32) × (Nat → Int32) × Int32 × Int32 × (Nat → Int32) × (Nat → Int32) × Int32) :=
  (if inb (x3 + y0) 40 then (if inb ((x3 + y0) + (1 : Int32)) 40 then (if inb ((x3 + y0) + (2 : Int32)) 40 then (Option.bind (F_B_renamed (lab ((x3 + y0) + (2 : Int32)).toNatClampNeg) (lab (x3 + y0).toNatClampNeg) (lab ((x3 + y0) + (1 : Int32)).toNatClampNeg)) (fun v_4 => (if inb (x3 + ((y0 + (3 : Int32)) - (y0 + (3 : Int32)) / (4 : Int32) * (4 : Int32))) 40 then (Option.bind (F_B_renamed (lab (x3 + ((y0 + (3 : Int32)) - (y0 + (3 : Int32)) / (4 : Int32) * (4 : Int32))).toNatClampNeg) (lab (x3 + y0).toNatClampNeg) (lab ((x3 + y0) + (1 : Int32)).toNatClampNeg)) (fun v_6 => (if (lab (x3 + y0).toNatClampNeg) = (lab ((x3 + y0) + (1 : Int32)).toNatClampNeg) then J_B_resolve_110 x1 (lab (x3 + y0).toNatClampNeg) (lab ((x3 + y0) + (1 : Int32)).toNatClampNeg) v_4 v_6 (1 : Int32) lab sg cc ci od sd we else J_B_resolve_110 x1 (lab (x3 + y0).toNatClampNeg) (lab ((x3 + y0) + (1 : Int32)).toNatClampNeg) v_4 v_6 (0 : Int32) lab sg cc ci od sd we))) else none))) else none) else none) else none)
def J_B_resolve_0 (x1 : Int32) (x2 : Int32) (lab : Nat → Int32) (sg : Nat → Int32) (cc : Int32) (ci : Int32) (od : Nat → Int32) (sd : Nat → Int32) (we : Int32) : Option (Int32 × (Nat → Int32) × (Nat → Int32) × Int32 × Int32 × (Nat → Int32) × (Nat → Int32) × Int32) :=
  (Option.bind (F_B_isCrossing x1 cc) (fun v_1 => (if v_1 = 0 then some ((0 : Int32), lab, sg, cc, ci, od, sd, we) else (Option.bind (F_B_isCode lab cc sd) (fun v_3 => (if v_3.1 = 0 then some ((0 : Int32), lab, sg, cc, ci, od, v_3.2, we) else (if x2 = 0 then J_B_resolve_30 x1 ((4 : Int32) * x1) (1 : Int32) lab sg cc ci od v_3.2 we else J_B_resolve_30 x1 ((4 : Int32) * x1) (0 : Int32) lab sg cc ci od v_3.2 we)))))))
def F_B_resolve (x1 : Int32) (x2 : Int32) (lab : Nat → Int32) (sg : Nat → Int32) (cc : Int32) (ci : Int32) (od : Nat → Int32) (sd : Nat → Int32) (we : Int32) : Option (Int32 × (Nat → Int32) × (Nat → Int32) × Int32 × Int32 × (Nat → Int32) × (Nat → Int32) × Int32) := J_B_resolve_0 x1 x2 lab sg cc ci od sd we
def H_B_resolve_122 (p : Program) (l : Launch) (e : Env) (s : State) (m : MethodId) (args : Array Value) (below : List Frame) (meth : Method) (c : Code) (D : va_G) (A : Nat → Prop) (a : Nat → Nat) (k : Nat → ClassId) (go : Nat → Int32) (ta : Nat → Int32) (oe : Nat → Int32) (fp : Nat → Int32) (ro : Nat → Int64) (sp : Nat → Int64) (qr : Nat) (qs : Nat) (f : Int32 → Int32 → Int32 → Int32 → Int32 → Int32 → Int32 → (Nat → Int32) → (Nat → Int32) → Int32 → Int32 → (Nat → Int32) → (Nat → Int32) → Int32 → Option (Int32 × (Nat → Int32) × (Nat → Int32) × Int32 × Int32 × (Nat → Int32) × (Nat → Int32) × Int32)) : Prop := ∀ (x1 : Int32) (x5 : Int32) (x6 : Int32) (x7 : Int32) (x8 : Int32) (y0 : Int32) (y1 : Int32) (lab : Nat → Int32) (sg : Nat → Int32) (cc : Int32) (ci : Int32) (od : Nat → Int32) (sd : Nat → Int32) (we : Int32) (r : Int32 × (Nat → Int32) × (Nat → Int32) × Int32 × Int32 × (Nat → Int32) × (Nat → Int32) × Int32), f x1 x5 x6 x7 x8 y0 y1 lab sg cc ci od sd we = some r → ∀ (H : Heap) (locs : List Loc) (ls : Array Slot), va_P D classes (wB a k lab sg cc ci od sd go ta we oe fp ro sp qr qs) H → va_D A (wB a k lab sg cc ci od sd go ta we oe fp ro sp qr qs) → va_S A s.heap H locs → lv_has ls 10 [(0, .ref (a 0)), (1, .int x1), (5, .int x5), (6, .int x6), (7, .int x7), (8, .int x8)] → W p l e (rm_B_resolve) s m args below meth c H locs 0 0 (MQ below (qc_B_resolve D A a k go ta oe fp ro sp qr qs r) args s 0 0 A) (F0 m 122 ls [.int y0, .int y1])
def H_B_resolve_110 (p : Program) (l : Launch) (e : Env) (s : State) (m : MethodId) (args : Array Value) (below : List Frame) (meth : Method) (c : Code) (D : va_G) (A : Nat → Prop) (a : Nat → Nat) (k : Nat → ClassId) (go : Nat → Int32) (ta : Nat → Int32) (oe : Nat → Int32) (fp : Nat → Int32) (ro : Nat → Int64) (sp : Nat → Int64) (qr : Nat) (qs : Nat) (f : Int32 → Int32 → Int32 → Int32 → Int32 → Int32 → (Nat → Int32) → (Nat → Int32) → Int32 → Int32 → (Nat → Int32) → (Nat → Int32) → Int32 → Option (Int32 × (Nat → Int32) × (Nat → Int32) × Int32 × Int32 × (Nat → Int32) × (Nat → Int32) × Int32)) : Prop := ∀ (x1 : Int32) (x5 : Int32) (x6 : Int32) (x7 : Int32) (x8 : Int32) (y0 : Int32) (lab : Nat → Int32) (sg : Nat → Int32) (cc : Int32) (ci : Int32) (od : Nat → Int32) (sd : Nat → Int32) (we : Int32) (r : Int32 × (Nat → Int32) × (Nat → Int32) × Int32 × Int32 × (Nat → Int32) × (Nat → Int32) × Int32), f x1 x5 x6 x7 x8 y0 lab sg cc ci od sd we = some r → ∀ (H : Heap) (locs : List Loc) (ls : Array Slot), va_P D classes (wB a k lab sg cc ci od sd go ta we oe fp ro sp qr qs) H → va_D A (wB a k lab sg cc ci od sd go ta we oe fp ro sp qr qs) → va_S A s.heap H locs → lv_has ls 10 [(0, .ref (a 0)), (1, .int x1), (5, .int x5), (6, .int x6), (7, .int x7), (8, .int x8)] → W p l e (rm_B_resolve) s m args below meth c H locs 0 0 (MQ below (qc_B_resolve D A a k go ta oe fp ro sp qr qs r) args s 0 0 A) (F0 m 110 ls [.int y0])
def H_B_resolve_30 (p : Program) (l : Launch) (e : Env) (s : State) (m : MethodId) (args : Array Value) (below : List Frame) (meth : Method) (c : Code) (D : va_G) (A : Nat → Prop) (a : Nat → Nat) (k : Nat → ClassId) (go : Nat → Int32) (ta : Nat → Int32) (oe : Nat → Int32) (fp : Nat → Int32) (ro : Nat → Int64) (sp : Nat → Int64) (qr : Nat) (qs : Nat) (f : Int32 → Int32 → Int32 → (Nat → Int32) → (Nat → Int32) → Int32 → Int32 → (Nat → Int32) → (Nat → Int32) → Int32 → Option (Int32 × (Nat → Int32) × (Nat → Int32) × Int32 × Int32 × (Nat → Int32) × (Nat → Int32) × Int32)) : Prop := ∀ (x1 : Int32) (x3 : Int32) (y0 : Int32) (lab : Nat → Int32) (sg : Nat → Int32) (cc : Int32) (ci : Int32) (od : Nat → Int32) (sd : Nat → Int32) (we : Int32) (r : Int32 × (Nat → Int32) × (Nat → Int32) × Int32 × Int32 × (Nat → Int32) × (Nat → Int32) × Int32), f x1 x3 y0 lab sg cc ci od sd we = some r → ∀ (H : Heap) (locs : List Loc) (ls : Array Slot), va_P D classes (wB a k lab sg cc ci od sd go ta we oe fp ro sp qr qs) H → va_D A (wB a k lab sg cc ci od sd go ta we oe fp ro sp qr qs) → va_S A s.heap H locs → lv_has ls 10 [(0, .ref (a 0)), (1, .int x1), (3, .int x3)] → W p l e (rm_B_resolve) s m args below meth c H locs 0 0 (MQ below (qc_B_resolve D A a k go ta oe fp ro sp qr qs r) args s 0 0 A) (F0 m 30 ls [.int y0])
def H_B_resolve_0 (p : Program) (l : Launch) (e : Env) (s : State) (m : MethodId) (args : Array Value) (below : List Frame) (meth : Method) (c : Code) (D : va_G) (A : Nat → Prop) (a : Nat → Nat) (k : Nat → ClassId) (go : Nat → Int32) (ta : Nat → Int32) (oe : Nat → Int32) (fp : Nat → Int32) (ro : Nat → Int64) (sp : Nat → Int64) (qr : Nat) (qs : Nat) (f : Int32 → Int32 → (Nat → Int32) → (Nat → Int32) → Int32 → Int32 → (Nat → Int32) → (Nat → Int32) → Int32 → Option (Int32 × (Nat → Int32) × (Nat → Int32) × Int32 × Int32 × (Nat → Int32) × (Nat → Int32) × Int32)) : Prop := ∀ (x1 : Int32) (x2 : Int32) (lab : Nat → Int32) (sg : Nat → Int32) (cc : Int32) (ci : Int32) (od : Nat → Int32) (sd : Nat → Int32) (we : Int32) (r : Int32 × (Nat → Int32) × (Nat → Int32) × Int32 × Int32 × (Nat → Int32) × (Nat → Int32) × Int32), f x1 x2 lab sg cc ci od sd we = some r → ∀ (H : Heap) (locs : List Loc) (ls : Array Slot), va_P D classes (wB a k lab sg cc ci od sd go ta we oe fp ro sp qr qs) H → va_D A (wB a k lab sg cc ci od sd go ta we oe fp ro sp qr qs) → va_S A s.heap H locs → lv_has ls 10 [(0, .ref (a 0)), (1, .int x1), (2, .int x2)] → W p l e (rm_B_resolve) s m args below meth c H locs 0 0 (MQ below (qc_B_resolve D A a k go ta oe fp ro sp qr qs r) args s 0 0 A) (F0 m 0 ls [])
set_option maxHeartbeats 4000000 in
set_option maxRecDepth 100000 in
theorem k_B_resolve_122 {p : Program} {l : Launch} {e : Env} {s : State} {m : MethodId} {args : Array Value} {below : List Frame} {meth : Method} {c : Code} {D : va_G} {A : Nat → Prop} {a : Nat → Nat} {k : Nat → ClassId} {go : Nat → Int32} {ta : Nat → Int32} {oe : Nat → Int32} {fp : Nat → Int32} {ro : Nat → Int64} {sp : Nat → Int64} {qr : Nat} {qs : Nat} (C : cx D [(k 1, .int), (k 2, .int), (k 3, .int), (k 4, .int), (k 5, .boolean), (k 6, .int), (k 8, .int), (k 9, .int), (k 11, .long)] R_B b_B_resolve 10 (some .boolean) A p s m args meth c) : H_B_resolve_122 p l e s m args below meth c D A a k go ta oe fp ro sp qr qs (J_B_resolve_122) := by
  obtain ⟨hx, hb, hr, hml, hown, ht, hlk, hA, hK⟩ := id C
  intro x1 x5 x6 x7 x8 y0 y1 lab sg cc ci od sd we r h H locs ls hP hD hS hl
  unfold J_B_resolve_122 at h
  refine lv_iadd hx hb d_B_resolve_122 ?_
  refine lv_istore (lv' := [(9, .int (y1 + y0)), (0, .ref (a 0)), (1, .int x1), (5, .int x5), (6, .int x6), (7, .int x7), (8, .int x8)]) hx hb d_B_resolve_123 hl (by decide) rfl (fun ls hl => ?_)
  refine lv_aload_n hx hb d_B_resolve_125 rfl (lv_at hl 1 rfl) ?_
  refine va_get (D := D) (ci := 0) (v := .int ci) (C := R_B) (T := F_B) (N := 11) hx hb ht iC_B hown hK hP 0 rfl rfl 3 (by decide) (ht _ ix_54) (fun _ h9 => h9) rfl d_B_resolve_126 ?_
  refine lv_iload hx hb d_B_resolve_129 (lv_at hl 0 rfl) ?_
  refine lv_iadd hx hb d_B_resolve_131 ?_
  refine lv_bipush (v := 9) hx hb d_B_resolve_132 (by decide) ?_
  refine lv_icmp_le (tgt := 139) hx hb d_B_resolve_134 (by decide) (fun c_1 => ?_) (fun c_1 => ?_)
  · have h := ite_T c_1 h
    refine lv_aload_n hx hb d_B_resolve_139 rfl (lv_at hl 1 rfl) ?_
    refine lv_iload hx hb d_B_resolve_140 (lv_at hl 3 rfl) ?_
    refine lv_iload hx hb d_B_resolve_142 (lv_at hl 4 rfl) ?_
    obtain ⟨v_2, e_2, h⟩ := bd_some h
    refine go_Vv (As := [.int x5, .int x6]) (rest := []) (wc := (wB a k lab sg cc ci od sd go ta we oe fp ro sp qr qs)) (wr := []) (w1 := (wB a k v_2 sg cc ci od sd go ta we oe fp ro sp qr qs)) (w2 := (wB a k v_2 sg cc ci od sd go ta we oe fp ro sp qr qs)) (tc := [(k 1, .int), (k 2, .int), (k 3, .int), (k 4, .int), (k 5, .boolean), (k 6, .int), (k 8, .int), (k 9, .int), (k 11, .long)]) hx hb hml hown ht (c_B_unite l D a k H.size x5 x6 lab sg cc ci od sd go ta we oe fp ro sp qr qs v_2 e_2) g_B_124 ⟨rfl, rfl⟩ (n := 2) (by decide +kernel) ⟨(Nat.le_of_ble_eq_true rfl), (Nat.le_of_ble_eq_true rfl)⟩ hP hD hK hS hA ⟨Nat.zero_le _, Nat.zero_le _⟩ [0, 1, 2, 3, 4, 5, 6, 7, 8, 9, 10, 11, 12] [] [0, 1, 2, 3, 4, 5, 6, 7, 8] [0, 1, 2, 3, 4, 5, 6, 7, 8, 9, 10, 11, 12] rfl rfl rfl rfl (by decide) (by decide) (by decide) rfl (by decide) 0 rfl rfl rfl rfl rfl hl.1 (Nat.le_of_ble_eq_true rfl) d_B_resolve_144 (fun H locs hP hD hS => ?_)
    refine lv_aload_n hx hb d_B_resolve_147 rfl (lv_at hl 1 rfl) ?_
    refine lv_iload hx hb d_B_resolve_148 (lv_at hl 5 rfl) ?_
    refine lv_iload hx hb d_B_resolve_150 (lv_at hl 6 rfl) ?_
    obtain ⟨v_3, e_3, h⟩ := bd_some h
    refine go_Vv (As := [.int x7, .int x8]) (rest := []) (wc := (wB a k v_2 sg cc ci od sd go ta we oe fp ro sp qr qs)) (wr := []) (w1 := (wB a k v_3 sg cc ci od sd go ta we oe fp ro sp qr qs)) (w2 := (wB a k v_3 sg cc ci od sd go ta we oe fp ro sp qr qs)) (tc := [(k 1, .int), (k 2, .int), (k 3, .int), (k 4, .int), (k 5, .boolean), (k 6, .int), (k 8, .int), (k 9, .int), (k 11, .long)]) hx hb hml hown ht (c_B_unite l D a k H.size x7 x8 v_2 sg cc ci od sd go ta we oe fp ro sp qr qs v_3 e_3) g_B_124 ⟨rfl, rfl⟩ (n := 2) (by decide +kernel) ⟨(Nat.le_of_ble_eq_true rfl), (Nat.le_of_ble_eq_true rfl)⟩ hP hD hK hS hA ⟨Nat.zero_le _, Nat.zero_le _⟩ [0, 1, 2, 3, 4, 5, 6, 7, 8, 9, 10, 11, 12] [] [0, 1, 2, 3, 4, 5, 6, 7, 8] [0, 1, 2, 3, 4, 5, 6, 7, 8, 9, 10, 11, 12] rfl rfl rfl rfl (by decide) (by decide) (by decide) rfl (by decide) 0 rfl rfl rfl rfl rfl hl.1 (Nat.le_of_ble_eq_true rfl) d_B_resolve_152 (fun H locs hP hD hS => ?_)
    refine lv_aload_n hx hb d_B_resolve_155 rfl (lv_at hl 1 rfl) ?_
    refine lv_dup hx hb d_B_resolve_156 rfl ?_
    refine va_get (D := D) (ci := 0) (v := .int ci) (C := R_B) (T := F_B) (N := 11) hx hb ht iC_B hown hK hP 0 rfl rfl 3 (by decide) (ht _ ix_54) (fun _ h9 => h9) rfl d_B_resolve_157 ?_
    refine lv_iload hx hb d_B_resolve_160 (lv_at hl 0 rfl) ?_
    refine lv_iadd hx hb d_B_resolve_162 ?_
    refine va_put (D := D) (ci := 0) (v := .int (ci + (y1 + y0))) (ty := .int) (C := R_B) (T := F_B) (N := 11) hx hb ht iC_B t_B t_B_ok n_B hown hK hP hD hS 0 rfl rfl 3 (by decide) (ht _ ix_54) (fun _ h9 => h9) rfl (by decide +kernel) rfl rfl (Nat.le_of_ble_eq_true rfl) d_B_resolve_163 (fun H locs hP hD hS => ?_)
    have hP : va_P D classes (wB a k v_3 sg cc (ci + (y1 + y0)) od sd go ta we oe fp ro sp qr qs) H := hP
    have hD : va_D A (wB a k v_3 sg cc (ci + (y1 + y0)) od sd go ta we oe fp ro sp qr qs) := hD
    refine lv_aload_n hx hb d_B_resolve_166 rfl (lv_at hl 1 rfl) ?_
    refine lv_iload_n hx hb d_B_resolve_167 rfl (lv_at hl 2 rfl) ?_
    refine lv_aload_n hx hb d_B_resolve_168 rfl (lv_at hl 1 rfl) ?_
    refine va_get (D := D) (ci := 0) (v := .int cc) (C := R_B) (T := F_B) (N := 11) hx hb ht iC_B hown hK hP 0 rfl rfl 2 (by decide) (ht _ ix_38) (fun _ h9 => h9) rfl d_B_resolve_169 ?_
    refine lv_iconst (v := 1) hx hb d_B_resolve_172 (by decide) ?_
    refine lv_isub hx hb d_B_resolve_173 ?_
    obtain ⟨v_4, e_4, h⟩ := bd_some h
    refine go_Vv (As := [.int x1, .int (cc - (1 : Int32))]) (rest := []) (wc := (wB a k v_3 sg cc (ci + (y1 + y0)) od sd go ta we oe fp ro sp qr qs)) (wr := []) (w1 := (wB a k v_4.1 v_4.2 cc (ci + (y1 + y0)) od sd go ta we oe fp ro sp qr qs)) (w2 := (wB a k v_4.1 v_4.2 cc (ci + (y1 + y0)) od sd go ta we oe fp ro sp qr qs)) (tc := [(k 1, .int), (k 2, .int), (k 3, .int), (k 4, .int), (k 5, .boolean), (k 6, .int), (k 8, .int), (k 9, .int), (k 11, .long)]) hx hb hml hown ht (c_B_carry l D a k H.size x1 (cc - (1 : Int32)) v_3 sg cc (ci + (y1 + y0)) od sd go ta we oe fp ro sp qr qs v_4 e_4) g_B_128 ⟨rfl, rfl⟩ (n := 2) (by decide +kernel) ⟨(Nat.le_of_ble_eq_true rfl), (Nat.le_of_ble_eq_true rfl)⟩ hP hD hK hS hA ⟨Nat.zero_le _, Nat.zero_le _⟩ [0, 1, 2, 3, 4, 5, 6, 7, 8, 9, 10, 11, 12] [] [0, 1, 2, 3, 4, 5, 6, 7, 8] [0, 1, 2, 3, 4, 5, 6, 7, 8, 9, 10, 11, 12] rfl rfl rfl rfl (by decide) (by decide) (by decide) rfl (by decide) 0 rfl rfl rfl rfl rfl hl.1 (Nat.le_of_ble_eq_true rfl) d_B_resolve_174 (fun H locs hP hD hS => ?_)
    refine lv_aload_n hx hb d_B_resolve_177 rfl (lv_at hl 1 rfl) ?_
    refine lv_dup hx hb d_B_resolve_178 rfl ?_
    refine va_get (D := D) (ci := 0) (v := .int cc) (C := R_B) (T := F_B) (N := 11) hx hb ht iC_B hown hK hP 0 rfl rfl 2 (by decide) (ht _ ix_38) (fun _ h9 => h9) rfl d_B_resolve_179 ?_
    refine lv_iconst (v := 1) hx hb d_B_resolve_182 (by decide) ?_
    refine lv_isub hx hb d_B_resolve_183 ?_
    refine va_put (D := D) (ci := 0) (v := .int (cc - (1 : Int32))) (ty := .int) (C := R_B) (T := F_B) (N := 11) hx hb ht iC_B t_B t_B_ok n_B hown hK hP hD hS 0 rfl rfl 2 (by decide) (ht _ ix_38) (fun _ h9 => h9) rfl (by decide +kernel) rfl rfl (Nat.le_of_ble_eq_true rfl) d_B_resolve_184 (fun H locs hP hD hS => ?_)
    have hP : va_P D classes (wB a k v_4.1 v_4.2 (cc - (1 : Int32)) (ci + (y1 + y0)) od sd go ta we oe fp ro sp qr qs) H := hP
    have hD : va_D A (wB a k v_4.1 v_4.2 (cc - (1 : Int32)) (ci + (y1 + y0)) od sd go ta we oe fp ro sp qr qs) := hD
    refine lv_aload_n hx hb d_B_resolve_187 rfl (lv_at hl 1 rfl) ?_
    obtain ⟨v_5, e_5, h⟩ := bd_some h
    refine go_Vv (As := []) (rest := []) (wc := (wB a k v_4.1 v_4.2 (cc - (1 : Int32)) (ci + (y1 + y0)) od sd go ta we oe fp ro sp qr qs)) (wr := []) (w1 := (wB a k v_4.1 v_4.2 (cc - (1 : Int32)) (ci + (y1 + y0)) v_5.1 sd go ta v_5.2 oe fp ro sp qr qs)) (w2 := (wB a k v_4.1 v_4.2 (cc - (1 : Int32)) (ci + (y1 + y0)) v_5.1 sd go ta v_5.2 oe fp ro sp qr qs)) (tc := [(k 1, .int), (k 2, .int), (k 3, .int), (k 4, .int), (k 5, .boolean), (k 6, .int), (k 8, .int), (k 9, .int), (k 11, .long)]) hx hb hml hown ht (c_B_orderAsGiven l D a k H.size v_4.1 v_4.2 (cc - (1 : Int32)) (ci + (y1 + y0)) od sd go ta we oe fp ro sp qr qs v_5 e_5) g_B_54 ⟨rfl, rfl⟩ (n := 0) (by decide +kernel) ⟨(Nat.le_of_ble_eq_true rfl), (Nat.le_of_ble_eq_true rfl)⟩ hP hD hK hS hA ⟨Nat.zero_le _, Nat.zero_le _⟩ [0, 1, 2, 3, 4, 5, 6, 7, 8, 9, 10, 11, 12] [] [0, 1, 2, 3, 4, 5, 6, 7, 8] [0, 1, 2, 3, 4, 5, 6, 7, 8, 9, 10, 11, 12] rfl rfl rfl rfl (by decide) (by decide) (by decide) rfl (by decide) 0 rfl rfl rfl rfl rfl hl.1 (Nat.le_of_ble_eq_true rfl) d_B_resolve_188 (fun H locs hP hD hS => ?_)
    refine lv_iconst (v := 1) hx hb d_B_resolve_191 (by decide) ?_
    cases h
    exact W.zret hx hb hr rfl (fun t ht hW => ⟨⟨_, (), rfl, rfl, by rw [ht]; exact hP, va_K.moved hW.alike hK, hD⟩, hS.F ht⟩) hS.2.2 d_B_resolve_192 hlk
  · have h := ite_F c_1 h
    refine lv_iconst (v := 0) hx hb d_B_resolve_137 (by decide) ?_
    cases h
    exact W.zret hx hb hr rfl (fun t ht hW => ⟨⟨_, (), rfl, rfl, by rw [ht]; exact hP, va_K.moved hW.alike hK, hD⟩, hS.F ht⟩) hS.2.2 d_B_resolve_138 hlk
set_option maxHeartbeats 4000000 in
set_option maxRecDepth 100000 in
theorem k_B_resolve_110 {p : Program} {l : Launch} {e : Env} {s : State} {m : MethodId} {args : Array Value} {below : List Frame} {meth : Method} {c : Code} {D : va_G} {A : Nat → Prop} {a : Nat → Nat} {k : Nat → ClassId} {go : Nat → Int32} {ta : Nat → Int32} {oe : Nat → Int32} {fp : Nat → Int32} {ro : Nat → Int64} {sp : Nat → Int64} {qr : Nat} {qs : Nat} (C : cx D [(k 1, .int), (k 2, .int), (k 3, .int), (k 4, .int), (k 5, .boolean), (k 6, .int), (k 8, .int), (k 9, .int), (k 11, .long)] R_B b_B_resolve 10 (some .boolean) A p s m args meth c) : H_B_resolve_110 p l e s m args below meth c D A a k go ta oe fp ro sp qr qs (J_B_resolve_110) := by
  obtain ⟨hx, hb, hr, hml, hown, ht, hlk, hA, hK⟩ := id C
  intro x1 x5 x6 x7 x8 y0 lab sg cc ci od sd we r h H locs ls hP hD hS hl
  unfold J_B_resolve_110 at h
  refine lv_iload hx hb d_B_resolve_110 (lv_at hl 4 rfl) ?_
  refine lv_iload hx hb d_B_resolve_112 (lv_at hl 5 rfl) ?_
  refine lv_icmp_ne (tgt := 121) hx hb d_B_resolve_114 (by decide) (fun c_1 => ?_) (fun c_1 => ?_)
  · have h := ite_F c_1 h
    refine lv_iconst (v := 0) hx hb d_B_resolve_121 (by decide) ?_
    exact (k_B_resolve_122 C) _ _ _ _ _ _ _ _ _ _ _ _ _ _ _ h _ _ _ hP hD hS (lv_sub hl [0, 1, 2, 3, 4, 5] rfl)
  · have h := ite_T c_1 h
    refine lv_iconst (v := 1) hx hb d_B_resolve_117 (by decide) ?_
    refine lv_goto (tgt := 122) hx hb d_B_resolve_118 (by decide) ?_
    exact (k_B_resolve_122 C) _ _ _ _ _ _ _ _ _ _ _ _ _ _ _ h _ _ _ hP hD hS (lv_sub hl [0, 1, 2, 3, 4, 5] rfl)
set_option maxHeartbeats 4000000 in
set_option maxRecDepth 100000 in
theorem k_B_resolve_30 {p : Program} {l : Launch} {e : Env} {s : State} {m : MethodId} {args : Array Value} {below : List Frame} {meth : Method} {c : Code} {D : va_G} {A : Nat → Prop} {a : Nat → Nat} {k : Nat → ClassId} {go : Nat → Int32} {ta : Nat → Int32} {oe : Nat → Int32} {fp : Nat → Int32} {ro : Nat → Int64} {sp : Nat → Int64} {qr : Nat} {qs : Nat} (C : cx D [(k 1, .int), (k 2, .int), (k 3, .int), (k 4, .int), (k 5, .boolean), (k 6, .int), (k 8, .int), (k 9, .int), (k 11, .long)] R_B b_B_resolve 10 (some .boolean) A p s m args meth c) : H_B_resolve_30 p l e s m args below meth c D A a k go ta oe fp ro sp qr qs (J_B_resolve_30) := by
  obtain ⟨hx, hb, hr, hml, hown, ht, hlk, hA, hK⟩ := id C
  intro x1 x3 y0 lab sg cc ci od sd we r h H locs ls hP hD hS hl
  unfold J_B_resolve_30 at h
  refine lv_istore (lv' := [(4, .int y0), (0, .ref (a 0)), (1, .int x1), (3, .int x3)]) hx hb d_B_resolve_30 hl (by decide) rfl (fun ls hl => ?_)
  refine lv_aload_n hx hb d_B_resolve_32 rfl (lv_at hl 1 rfl) ?_
  refine va_get (D := D) (ci := 0) (v := .ref (a 1)) (C := R_B) (T := F_B) (N := 11) hx hb ht iC_B hown hK hP 0 rfl rfl 0 (by decide) (ht _ ix_43) (fun _ h9 => h9) rfl d_B_resolve_33 ?_
  refine lv_iload_n hx hb d_B_resolve_36 rfl (lv_at hl 3 rfl) ?_
  refine lv_iload hx hb d_B_resolve_37 (lv_at hl 0 rfl) ?_
  refine lv_iadd hx hb d_B_resolve_39 ?_
  obtain ⟨g_1, h⟩ := gd_some h
  refine va_iald hx hb hK hP 1 0 rfl rfl (inb_in g_1) d_B_resolve_40 ?_
  refine lv_istore (lv' := [(5, .int (lab (x3 + y0).toNatClampNeg)), (4, .int y0), (0, .ref (a 0)), (1, .int x1), (3, .int x3)]) hx hb d_B_resolve_41 hl (by decide) rfl (fun ls hl => ?_)
  refine lv_aload_n hx hb d_B_resolve_43 rfl (lv_at hl 2 rfl) ?_
  refine va_get (D := D) (ci := 0) (v := .ref (a 1)) (C := R_B) (T := F_B) (N := 11) hx hb ht iC_B hown hK hP 0 rfl rfl 0 (by decide) (ht _ ix_43) (fun _ h9 => h9) rfl d_B_resolve_44 ?_
  refine lv_iload_n hx hb d_B_resolve_47 rfl (lv_at hl 4 rfl) ?_
  refine lv_iload hx hb d_B_resolve_48 (lv_at hl 1 rfl) ?_
  refine lv_iadd hx hb d_B_resolve_50 ?_
  refine lv_iconst (v := 1) hx hb d_B_resolve_51 (by decide) ?_
  refine lv_iadd hx hb d_B_resolve_52 ?_
  obtain ⟨g_2, h⟩ := gd_some h
  refine va_iald hx hb hK hP 1 0 rfl rfl (inb_in g_2) d_B_resolve_53 ?_
  refine lv_istore (lv' := [(6, .int (lab ((x3 + y0) + (1 : Int32)).toNatClampNeg)), (5, .int (lab (x3 + y0).toNatClampNeg)), (4, .int y0), (0, .ref (a 0)), (1, .int x1), (3, .int x3)]) hx hb d_B_resolve_54 hl (by decide) rfl (fun ls hl => ?_)
  refine lv_aload_n hx hb d_B_resolve_56 rfl (lv_at hl 3 rfl) ?_
  refine va_get (D := D) (ci := 0) (v := .ref (a 1)) (C := R_B) (T := F_B) (N := 11) hx hb ht iC_B hown hK hP 0 rfl rfl 0 (by decide) (ht _ ix_43) (fun _ h9 => h9) rfl d_B_resolve_57 ?_
  refine lv_iload_n hx hb d_B_resolve_60 rfl (lv_at hl 5 rfl) ?_
  refine lv_iload hx hb d_B_resolve_61 (lv_at hl 2 rfl) ?_
  refine lv_iadd hx hb d_B_resolve_63 ?_
  refine lv_iconst (v := 2) hx hb d_B_resolve_64 (by decide) ?_
  refine lv_iadd hx hb d_B_resolve_65 ?_
  obtain ⟨g_3, h⟩ := gd_some h
  refine va_iald hx hb hK hP 1 0 rfl rfl (inb_in g_3) d_B_resolve_66 ?_
  refine lv_iload hx hb d_B_resolve_67 (lv_at hl 1 rfl) ?_
  refine lv_iload hx hb d_B_resolve_69 (lv_at hl 0 rfl) ?_
  obtain ⟨v_4, e_4, h⟩ := bd_some h
  refine go_Si (r := v_4) (As := [.int (lab ((x3 + y0) + (2 : Int32)).toNatClampNeg), .int (lab (x3 + y0).toNatClampNeg), .int (lab ((x3 + y0) + (1 : Int32)).toNatClampNeg)]) (rest := []) (wc := (wN a k )) (wr := [((a 0), .inr (0, [.ref (a 1), .ref (a 2), .int cc, .int ci, .ref (a 3), .ref (a 4), .ref (a 5), .ref (a 6), .ref (a 7), .ref (a 10), .int we])), ((a 1), .inl (k 1, 40, .inl lab)), ((a 2), .inl (k 2, 10, .inl sg)), ((a 3), .inl (k 3, 10, .inl od)), ((a 4), .inl (k 4, 100, .inl sd)), ((a 5), .inl (k 5, 10, .inl go)), ((a 6), .inl (k 6, 330, .inl ta)), ((a 7), .inr (1, [.ref (a 8), .ref (a 9)])), ((a 8), .inl (k 8, 40, .inl oe)), ((a 9), .inl (k 9, 100, .inl fp)), ((a 10), .inr (2, [.ref qr, .ref qs])), (qr, .inl (k 11, 133, .inr (.inl ro))), (qs, .inl (k 11, 133, .inr (.inl sp)))]) (w1 := (wN a k )) (w2 := (wB a k lab sg cc ci od sd go ta we oe fp ro sp qr qs)) (tc := []) hx hb hml hown ht (c_B_renamed l D a k H.size (lab ((x3 + y0) + (2 : Int32)).toNatClampNeg) (lab (x3 + y0).toNatClampNeg) (lab ((x3 + y0) + (1 : Int32)).toNatClampNeg) v_4 e_4) g_B_120 ⟨rfl, rfl⟩ (n := 3) (by decide +kernel) ⟨(Nat.le_of_ble_eq_true rfl), (Nat.le_of_ble_eq_true rfl)⟩ hP hD hK hS hA ⟨Nat.zero_le _, Nat.zero_le _⟩ [] [0, 1, 2, 3, 4, 5, 6, 7, 8, 9, 10, 11, 12] [] [0, 1, 2, 3, 4, 5, 6, 7, 8, 9, 10, 11, 12] rfl rfl rfl rfl (by decide) (by decide) (by decide) rfl (by decide) rfl rfl hl.1 (Nat.le_of_ble_eq_true rfl) d_B_resolve_71 (fun H locs hP hD hS => ?_)
  refine lv_istore (lv' := [(7, .int v_4), (6, .int (lab ((x3 + y0) + (1 : Int32)).toNatClampNeg)), (5, .int (lab (x3 + y0).toNatClampNeg)), (4, .int y0), (0, .ref (a 0)), (1, .int x1), (3, .int x3)]) hx hb d_B_resolve_74 hl (by decide) rfl (fun ls hl => ?_)
  refine lv_aload_n hx hb d_B_resolve_76 rfl (lv_at hl 4 rfl) ?_
  refine va_get (D := D) (ci := 0) (v := .ref (a 1)) (C := R_B) (T := F_B) (N := 11) hx hb ht iC_B hown hK hP 0 rfl rfl 0 (by decide) (ht _ ix_43) (fun _ h9 => h9) rfl d_B_resolve_77 ?_
  refine lv_iload_n hx hb d_B_resolve_80 rfl (lv_at hl 6 rfl) ?_
  refine lv_iload hx hb d_B_resolve_81 (lv_at hl 3 rfl) ?_
  refine lv_iconst (v := 3) hx hb d_B_resolve_83 (by decide) ?_
  refine lv_iadd hx hb d_B_resolve_84 ?_
  refine lv_iconst (v := 4) hx hb d_B_resolve_85 (by decide) ?_
  refine lv_irem hx hb d_B_resolve_86 (by decide) ?_
  refine lv_iadd hx hb d_B_resolve_87 ?_
  obtain ⟨g_5, h⟩ := gd_some h
  refine va_iald hx hb hK hP 1 0 rfl rfl (inb_in g_5) d_B_resolve_88 ?_
  refine lv_iload hx hb d_B_resolve_89 (lv_at hl 2 rfl) ?_
  refine lv_iload hx hb d_B_resolve_91 (lv_at hl 1 rfl) ?_
  obtain ⟨v_6, e_6, h⟩ := bd_some h
  refine go_Si (r := v_6) (As := [.int (lab (x3 + ((y0 + (3 : Int32)) - (y0 + (3 : Int32)) / (4 : Int32) * (4 : Int32))).toNatClampNeg), .int (lab (x3 + y0).toNatClampNeg), .int (lab ((x3 + y0) + (1 : Int32)).toNatClampNeg)]) (rest := []) (wc := (wN a k )) (wr := [((a 0), .inr (0, [.ref (a 1), .ref (a 2), .int cc, .int ci, .ref (a 3), .ref (a 4), .ref (a 5), .ref (a 6), .ref (a 7), .ref (a 10), .int we])), ((a 1), .inl (k 1, 40, .inl lab)), ((a 2), .inl (k 2, 10, .inl sg)), ((a 3), .inl (k 3, 10, .inl od)), ((a 4), .inl (k 4, 100, .inl sd)), ((a 5), .inl (k 5, 10, .inl go)), ((a 6), .inl (k 6, 330, .inl ta)), ((a 7), .inr (1, [.ref (a 8), .ref (a 9)])), ((a 8), .inl (k 8, 40, .inl oe)), ((a 9), .inl (k 9, 100, .inl fp)), ((a 10), .inr (2, [.ref qr, .ref qs])), (qr, .inl (k 11, 133, .inr (.inl ro))), (qs, .inl (k 11, 133, .inr (.inl sp)))]) (w1 := (wN a k )) (w2 := (wB a k lab sg cc ci od sd go ta we oe fp ro sp qr qs)) (tc := []) hx hb hml hown ht (c_B_renamed l D a k H.size (lab (x3 + ((y0 + (3 : Int32)) - (y0 + (3 : Int32)) / (4 : Int32) * (4 : Int32))).toNatClampNeg) (lab (x3 + y0).toNatClampNeg) (lab ((x3 + y0) + (1 : Int32)).toNatClampNeg) v_6 e_6) g_B_120 ⟨rfl, rfl⟩ (n := 3) (by decide +kernel) ⟨(Nat.le_of_ble_eq_true rfl), (Nat.le_of_ble_eq_true rfl)⟩ hP hD hK hS hA ⟨Nat.zero_le _, Nat.zero_le _⟩ [] [0, 1, 2, 3, 4, 5, 6, 7, 8, 9, 10, 11, 12] [] [0, 1, 2, 3, 4, 5, 6, 7, 8, 9, 10, 11, 12] rfl rfl rfl rfl (by decide) (by decide) (by decide) rfl (by decide) rfl rfl hl.1 (Nat.le_of_ble_eq_true rfl) d_B_resolve_93 (fun H locs hP hD hS => ?_)
  refine lv_istore (lv' := [(8, .int v_6), (7, .int v_4), (6, .int (lab ((x3 + y0) + (1 : Int32)).toNatClampNeg)), (5, .int (lab (x3 + y0).toNatClampNeg)), (4, .int y0), (0, .ref (a 0)), (1, .int x1), (3, .int x3)]) hx hb d_B_resolve_96 hl (by decide) rfl (fun ls hl => ?_)
  refine lv_iload hx hb d_B_resolve_98 (lv_at hl 3 rfl) ?_
  refine lv_iload hx hb d_B_resolve_100 (lv_at hl 2 rfl) ?_
  refine lv_icmp_ne (tgt := 109) hx hb d_B_resolve_102 (by decide) (fun c_7 => ?_) (fun c_7 => ?_)
  · have h := ite_F c_7 h
    refine lv_iconst (v := 0) hx hb d_B_resolve_109 (by decide) ?_
    exact (k_B_resolve_110 C) _ _ _ _ _ _ _ _ _ _ _ _ _ _ h _ _ _ hP hD hS (lv_sub hl [5, 6, 3, 2, 1, 0] rfl)
  · have h := ite_T c_7 h
    refine lv_iconst (v := 1) hx hb d_B_resolve_105 (by decide) ?_
    refine lv_goto (tgt := 110) hx hb d_B_resolve_106 (by decide) ?_
    exact (k_B_resolve_110 C) _ _ _ _ _ _ _ _ _ _ _ _ _ _ h _ _ _ hP hD hS (lv_sub hl [5, 6, 3, 2, 1, 0] rfl)
set_option maxHeartbeats 4000000 in
set_option maxRecDepth 100000 in
theorem k_B_resolve_0 {p : Program} {l : Launch} {e : Env} {s : State} {m : MethodId} {args : Array Value} {below : List Frame} {meth : Method} {c : Code} {D : va_G} {A : Nat → Prop} {a : Nat → Nat} {k : Nat → ClassId} {go : Nat → Int32} {ta : Nat → Int32} {oe : Nat → Int32} {fp : Nat → Int32} {ro : Nat → Int64} {sp : Nat → Int64} {qr : Nat} {qs : Nat} (C : cx D [(k 1, .int), (k 2, .int), (k 3, .int), (k 4, .int), (k 5, .boolean), (k 6, .int), (k 8, .int), (k 9, .int), (k 11, .long)] R_B b_B_resolve 10 (some .boolean) A p s m args meth c) : H_B_resolve_0 p l e s m args below meth c D A a k go ta oe fp ro sp qr qs (J_B_resolve_0) := by
  obtain ⟨hx, hb, hr, hml, hown, ht, hlk, hA, hK⟩ := id C
  intro x1 x2 lab sg cc ci od sd we r h H locs ls hP hD hS hl
  unfold J_B_resolve_0 at h
  refine lv_aload_n hx hb d_B_resolve_0 rfl (lv_at hl 0 rfl) ?_
  refine lv_iload_n hx hb d_B_resolve_1 rfl (lv_at hl 1 rfl) ?_
  obtain ⟨v_1, e_1, h⟩ := bd_some h
  refine go_Vi (r := v_1) (As := [.int x1]) (rest := []) (wc := (wB a k lab sg cc ci od sd go ta we oe fp ro sp qr qs)) (wr := []) (w1 := (wB a k lab sg cc ci od sd go ta we oe fp ro sp qr qs)) (w2 := (wB a k lab sg cc ci od sd go ta we oe fp ro sp qr qs)) (tc := [(k 1, .int), (k 2, .int), (k 3, .int), (k 4, .int), (k 5, .boolean), (k 6, .int), (k 8, .int), (k 9, .int), (k 11, .long)]) hx hb hml hown ht (c_B_isCrossing l D a k H.size x1 lab sg cc ci od sd go ta we oe fp ro sp qr qs v_1 e_1) g_B_64 ⟨rfl, rfl⟩ (n := 1) (by decide +kernel) ⟨(Nat.le_of_ble_eq_true rfl), (Nat.le_of_ble_eq_true rfl)⟩ hP hD hK hS hA ⟨Nat.zero_le _, Nat.zero_le _⟩ [0, 1, 2, 3, 4, 5, 6, 7, 8, 9, 10, 11, 12] [] [0, 1, 2, 3, 4, 5, 6, 7, 8] [0, 1, 2, 3, 4, 5, 6, 7, 8, 9, 10, 11, 12] rfl rfl rfl rfl (by decide) (by decide) (by decide) rfl (by decide) 0 rfl rfl rfl rfl rfl hl.1 (Nat.le_of_ble_eq_true rfl) d_B_resolve_2 (fun H locs hP hD hS => ?_)
  refine lv_if_eq (tgt := 15) hx hb d_B_resolve_5 (by decide) (fun c_2 => ?_) (fun c_2 => ?_)
  · have h := ite_T c_2 h
    refine lv_iconst (v := 0) hx hb d_B_resolve_15 (by decide) ?_
    cases h
    exact W.zret hx hb hr rfl (fun t ht hW => ⟨⟨_, (), rfl, rfl, by rw [ht]; exact hP, va_K.moved hW.alike hK, hD⟩, hS.F ht⟩) hS.2.2 d_B_resolve_16 hlk
  · have h := ite_F c_2 h
    refine lv_aload_n hx hb d_B_resolve_8 rfl (lv_at hl 0 rfl) ?_
    obtain ⟨v_3, e_3, h⟩ := bd_some h
    refine go_Vi (r := v_3.1) (As := []) (rest := []) (wc := (wB a k lab sg cc ci od sd go ta we oe fp ro sp qr qs)) (wr := []) (w1 := (wB a k lab sg cc ci od v_3.2 go ta we oe fp ro sp qr qs)) (w2 := (wB a k lab sg cc ci od v_3.2 go ta we oe fp ro sp qr qs)) (tc := [(k 1, .int), (k 2, .int), (k 3, .int), (k 4, .int), (k 5, .boolean), (k 6, .int), (k 8, .int), (k 9, .int), (k 11, .long)]) hx hb hml hown ht (c_B_isCode l D a k H.size lab sg cc ci od sd go ta we oe fp ro sp qr qs v_3 e_3) g_B_67 ⟨rfl, rfl⟩ (n := 0) (by decide +kernel) ⟨(Nat.le_of_ble_eq_true rfl), (Nat.le_of_ble_eq_true rfl)⟩ hP hD hK hS hA ⟨Nat.zero_le _, Nat.zero_le _⟩ [0, 1, 2, 3, 4, 5, 6, 7, 8, 9, 10, 11, 12] [] [0, 1, 2, 3, 4, 5, 6, 7, 8] [0, 1, 2, 3, 4, 5, 6, 7, 8, 9, 10, 11, 12] rfl rfl rfl rfl (by decide) (by decide) (by decide) rfl (by decide) 0 rfl rfl rfl rfl rfl hl.1 (Nat.le_of_ble_eq_true rfl) d_B_resolve_9 (fun H locs hP hD hS => ?_)
    refine lv_if_ne (tgt := 17) hx hb d_B_resolve_12 (by decide) (fun c_4 => ?_) (fun c_4 => ?_)
    · have h := ite_F c_4 h
      refine lv_iconst (v := 4) hx hb d_B_resolve_17 (by decide) ?_
      refine lv_iload_n hx hb d_B_resolve_18 rfl (lv_at hl 1 rfl) ?_
      refine lv_imul hx hb d_B_resolve_19 ?_
      refine lv_istore_n (lv' := [(3, .int ((4 : Int32) * x1)), (0, .ref (a 0)), (1, .int x1), (2, .int x2)]) hx hb d_B_resolve_20 rfl hl (by decide) rfl (fun ls hl => ?_)
      refine lv_iload_n hx hb d_B_resolve_21 rfl (lv_at hl 3 rfl) ?_
      refine lv_if_eq (tgt := 29) hx hb d_B_resolve_22 (by decide) (fun c_5 => ?_) (fun c_5 => ?_)
      · have h := ite_T c_5 h
        refine lv_iconst (v := 1) hx hb d_B_resolve_29 (by decide) ?_
        exact (k_B_resolve_30 C) _ _ _ _ _ _ _ _ _ _ _ h _ _ _ hP hD hS (lv_sub hl [1, 2, 0] rfl)
      · have h := ite_F c_5 h
        refine lv_iconst (v := 0) hx hb d_B_resolve_25 (by decide) ?_
        refine lv_goto (tgt := 30) hx hb d_B_resolve_26 (by decide) ?_
        exact (k_B_resolve_30 C) _ _ _ _ _ _ _ _ _ _ _ h _ _ _ hP hD hS (lv_sub hl [1, 2, 0] rfl)
    · have h := ite_T c_4 h
      refine lv_iconst (v := 0) hx hb d_B_resolve_15 (by decide) ?_
      cases h
      exact W.zret hx hb hr rfl (fun t ht hW => ⟨⟨_, (), rfl, rfl, by rw [ht]; exact hP, va_K.moved hW.alike hK, hD⟩, hS.F ht⟩) hS.2.2 d_B_resolve_16 hlk
set_option maxRecDepth 20000 in
theorem c_B_resolve (l : Launch) (D : va_G) (a : Nat → Nat) (k : Nat → ClassId) (sz : Nat) (x1 : Int32) (x2 : Int32) (lab : Nat → Int32) (sg : Nat → Int32) (cc : Int32) (ci : Int32) (od : Nat → Int32) (sd : Nat → Int32) (go : Nat → Int32) (ta : Nat → Int32) (we : Int32) (oe : Nat → Int32) (fp : Nat → Int32) (ro : Nat → Int64) (sp : Nat → Int64) (qr : Nat) (qs : Nat) (r : Int32 × (Nat → Int32) × (Nat → Int32) × Int32 × Int32 × (Nat → Int32) × (Nat → Int32) × Int32) (h : F_B_resolve x1 x2 lab sg cc ci od sd we = some r) : Met l y_B_resolve (Cond.code y_B_resolve b_B_resolve 10 (some .boolean) :: lw_g) (rm_B_resolve) (va_Pc [.ref (a 0), .int x1, .int x2] (pcW D [(k 1, .int), (k 2, .int), (k 3, .int), (k 4, .int), (k 5, .boolean), (k 6, .int), (k 8, .int), (k 9, .int), (k 11, .long)] (wB a k lab sg cc ci od sd go ta we oe fp ro sp qr qs) sz)) (qc_B_resolve D (va_A (wB a k lab sg cc ci od sd go ta we oe fp ro sp qr qs) sz) a k go ta oe fp ro sp qr qs r) 0 0 (va_A (wB a k lab sg cc ci od sd go ta we oe fp ro sp qr qs) sz) := by
  refine Met.ofW (cc := b_B_resolve) (maxL := 10) (ret := (some .boolean)) (by decide) rfl ?_
  intro p e s m args below meth c s₁ B hml hv
  obtain ⟨rfl, hsz, hP, hK, hD0⟩ := hv
  have hts := atoms_spec (ws := Cond.code y_B_resolve b_B_resolve 10 (some .boolean) :: lw_g) B.pre
  subst hsz
  have hD := hD0.self (sz := s.heap.size)
  have hl := lv_entry ([.ref (a 0), .int x1, .int x2]) (n := 10) (Nat.le_of_ble_eq_true rfl)
  rw [lg_entry_eq]
  generalize (lg_sl ([.ref (a 0), .int x1, .int x2]) ++ List.replicate (10 - (lg_sl ([.ref (a 0), .int x1, .int x2])).length) Slot.unset).toArray = ls at hl ⊢
  exact k_B_resolve_0 ⟨B.exec, B.bytes, B.returns, hml, findClass_of_methodNamed B.named, fun w hw => hts w (List.mem_cons_of_mem _ hw), B.notSynchronized, fun q h => Or.inr h, hK⟩ _ _ _ _ _ _ _ _ _ _ h _ _ _ hP hD va_S.rf hl

def rm_B_change : Room := { frames := 1, cells := 0, slots := 0, locals := 21 }
def qc_B_change (D : va_G) (A : Nat → Prop) (a : Nat → Nat) (k : Nat → ClassId) (cc : Int32) (ci : Int32) (sd : Nat → Int32) (go : Nat → Int32) (ta : Nat → Int32) (oe : Nat → Int32) (fp : Nat → Int32) (ro : Nat → Int64) (sp : Nat → Int64) (qr : Nat) (qs : Nat) (r : Int32 × (Nat → Int32) × (Nat → Int32) × (Nat → Int32) × Int32) : Array Value → State → Outcome → State → Prop := va_Qi (fun (r1 : Int32) (_ : Unit) => r1 = r.1) (poW D [(k 1, .int), (k 2, .int), (k 3, .int), (k 4, .int), (k 5, .boolean), (k 6, .int), (k 8, .int), (k 9, .int), (k 11, .long)] (wB a k r.2.1 r.2.2.1 cc ci r.2.2.2.1 sd go ta r.2.2.2.2 oe fp ro sp qr qs) A) A
def J_B_change_0 (x1 : Int32) (lab : Nat → Int32) (sg : Nat → Int32) (cc : Int32) (od : Nat → Int32) (we : Int32) : Option (Int32 × (Nat → Int32) × (Nat → Int32) × (Nat → Int32) × Int32) :=
  (Option.bind (F_B_isCrossing x1 cc) (fun v_1 => (if v_1 = 0 then some ((0 : Int32), lab, sg, od, we) else (if inb ((4 : Int32) * x1) 40 then (if inb (((4 : Int32) * x1) + (1 : Int32)) 40 then (if inb ((4 : Int32) * x1) 40 then (if inb (((4 : Int32) * x1) + (2 : Int32)) 40 then (if inb (((4 : Int32) * x1) + (1 : Int32)) 40 then (if inb (((4 : Int32) * x1) + (3 : Int32)) 40 then (if inb (((4 : Int32) * x1) + (2 : Int32)) 40 then (if inb (((4 : Int32) * x1) + (3 : Int32)) 40 then (if inb x1 10 then (if inb x1 10 then (Option.bind (F_B_orderAsGiven od we) (fun v_13 => some ((1 : Int32), (upd (upd (upd (upd lab ((4 : Int32) * x1).toNatClampNeg (lab (((4 : Int32) * x1) + (1 : Int32)).toNatClampNeg)) (((4 : Int32) * x1) + (1 : Int32)).toNatClampNeg ((upd lab ((4 : Int32) * x1).toNatClampNeg (lab (((4 : Int32) * x1) + (1 : Int32)).toNatClampNeg)) (((4 : Int32) * x1) + (2 : Int32)).toNatClampNeg)) (((4 : Int32) * x1) + (2 : Int32)).toNatClampNeg ((upd (upd lab ((4 : Int32) * x1).toNatClampNeg (lab (((4 : Int32) * x1) + (1 : Int32)).toNatClampNeg)) (((4 : Int32) * x1) + (1 : Int32)).toNatClampNeg ((upd lab ((4 : Int32) * x1).toNatClampNeg (lab (((4 : Int32) * x1) + (1 : Int32)).toNatClampNeg)) (((4 : Int32) * x1) + (2 : Int32)).toNatClampNeg)) (((4 : Int32) * x1) + (3 : Int32)).toNatClampNeg)) (((4 : Int32) * x1) + (3 : Int32)).toNatClampNeg (lab ((4 : Int32) * x1).toNatClampNeg)), (upd sg x1.toNatClampNeg (-(sg x1.toNatClampNeg))), v_13.1, v_13.2))) else none) else none) else none) else none) else none) else none) else none) else none) else none) else none))))
def F_B_change (x1 : Int32) (lab : Nat → Int32) (sg : Nat → Int32) (cc : Int32) (od : Nat → Int32) (we : Int32) : Option (Int32 × (Nat → Int32) × (Nat → Int32) × (Nat → Int32) × Int32) := J_B_change_0 x1 lab sg cc od we
def H_B_change_0 (p : Program) (l : Launch) (e : Env) (s : State) (m : MethodId) (args : Array Value) (below : List Frame) (meth : Method) (c : Code) (D : va_G) (A : Nat → Prop) (a : Nat → Nat) (k : Nat → ClassId) (ci : Int32) (sd : Nat → Int32) (go : Nat → Int32) (ta : Nat → Int32) (oe : Nat → Int32) (fp : Nat → Int32) (ro : Nat → Int64) (sp : Nat → Int64) (qr : Nat) (qs : Nat) (f : Int32 → (Nat → Int32) → (Nat → Int32) → Int32 → (Nat → Int32) → Int32 → Option (Int32 × (Nat → Int32) × (Nat → Int32) × (Nat → Int32) × Int32)) : Prop := ∀ (x1 : Int32) (lab : Nat → Int32) (sg : Nat → Int32) (cc : Int32) (od : Nat → Int32) (we : Int32) (r : Int32 × (Nat → Int32) × (Nat → Int32) × (Nat → Int32) × Int32), f x1 lab sg cc od we = some r → ∀ (H : Heap) (locs : List Loc) (ls : Array Slot), va_P D classes (wB a k lab sg cc ci od sd go ta we oe fp ro sp qr qs) H → va_D A (wB a k lab sg cc ci od sd go ta we oe fp ro sp qr qs) → va_S A s.heap H locs → lv_has ls 4 [(0, .ref (a 0)), (1, .int x1)] → W p l e (rm_B_change) s m args below meth c H locs 0 0 (MQ below (qc_B_change D A a k cc ci sd go ta oe fp ro sp qr qs r) args s 0 0 A) (F0 m 0 ls [])
set_option maxHeartbeats 4000000 in
set_option maxRecDepth 100000 in
theorem k_B_change_0 {p : Program} {l : Launch} {e : Env} {s : State} {m : MethodId} {args : Array Value} {below : List Frame} {meth : Method} {c : Code} {D : va_G} {A : Nat → Prop} {a : Nat → Nat} {k : Nat → ClassId} {ci : Int32} {sd : Nat → Int32} {go : Nat → Int32} {ta : Nat → Int32} {oe : Nat → Int32} {fp : Nat → Int32} {ro : Nat → Int64} {sp : Nat → Int64} {qr : Nat} {qs : Nat} (C : cx D [(k 1, .int), (k 2, .int), (k 3, .int), (k 4, .int), (k 5, .boolean), (k 6, .int), (k 8, .int), (k 9, .int), (k 11, .long)] R_B b_B_change 4 (some .boolean) A p s m args meth c) : H_B_change_0 p l e s m args below meth c D A a k ci sd go ta oe fp ro sp qr qs (J_B_change_0) := by
  obtain ⟨hx, hb, hr, hml, hown, ht, hlk, hA, hK⟩ := id C
  intro x1 lab sg cc od we r h H locs ls hP hD hS hl
  unfold J_B_change_0 at h
  refine lv_aload_n hx hb d_B_change_0 rfl (lv_at hl 0 rfl) ?_
  refine lv_iload_n hx hb d_B_change_1 rfl (lv_at hl 1 rfl) ?_
  obtain ⟨v_1, e_1, h⟩ := bd_some h
  refine go_Vi (r := v_1) (As := [.int x1]) (rest := []) (wc := (wB a k lab sg cc ci od sd go ta we oe fp ro sp qr qs)) (wr := []) (w1 := (wB a k lab sg cc ci od sd go ta we oe fp ro sp qr qs)) (w2 := (wB a k lab sg cc ci od sd go ta we oe fp ro sp qr qs)) (tc := [(k 1, .int), (k 2, .int), (k 3, .int), (k 4, .int), (k 5, .boolean), (k 6, .int), (k 8, .int), (k 9, .int), (k 11, .long)]) hx hb hml hown ht (c_B_isCrossing l D a k H.size x1 lab sg cc ci od sd go ta we oe fp ro sp qr qs v_1 e_1) g_B_64 ⟨rfl, rfl⟩ (n := 1) (by decide +kernel) ⟨(Nat.le_of_ble_eq_true rfl), (Nat.le_of_ble_eq_true rfl)⟩ hP hD hK hS hA ⟨Nat.zero_le _, Nat.zero_le _⟩ [0, 1, 2, 3, 4, 5, 6, 7, 8, 9, 10, 11, 12] [] [0, 1, 2, 3, 4, 5, 6, 7, 8] [0, 1, 2, 3, 4, 5, 6, 7, 8, 9, 10, 11, 12] rfl rfl rfl rfl (by decide) (by decide) (by decide) rfl (by decide) 0 rfl rfl rfl rfl rfl hl.1 (Nat.le_of_ble_eq_true rfl) d_B_change_2 (fun H locs hP hD hS => ?_)
  refine lv_if_ne (tgt := 10) hx hb d_B_change_5 (by decide) (fun c_2 => ?_) (fun c_2 => ?_)
  · have h := ite_F c_2 h
    refine lv_iconst (v := 4) hx hb d_B_change_10 (by decide) ?_
    refine lv_iload_n hx hb d_B_change_11 rfl (lv_at hl 1 rfl) ?_
    refine lv_imul hx hb d_B_change_12 ?_
    refine lv_istore_n (lv' := [(2, .int ((4 : Int32) * x1)), (0, .ref (a 0)), (1, .int x1)]) hx hb d_B_change_13 rfl hl (by decide) rfl (fun ls hl => ?_)
    refine lv_aload_n hx hb d_B_change_14 rfl (lv_at hl 1 rfl) ?_
    refine va_get (D := D) (ci := 0) (v := .ref (a 1)) (C := R_B) (T := F_B) (N := 11) hx hb ht iC_B hown hK hP 0 rfl rfl 0 (by decide) (ht _ ix_43) (fun _ h9 => h9) rfl d_B_change_15 ?_
    refine lv_iload_n hx hb d_B_change_18 rfl (lv_at hl 0 rfl) ?_
    obtain ⟨g_3, h⟩ := gd_some h
    refine va_iald hx hb hK hP 1 0 rfl rfl (inb_in g_3) d_B_change_19 ?_
    refine lv_istore_n (lv' := [(3, .int (lab ((4 : Int32) * x1).toNatClampNeg)), (2, .int ((4 : Int32) * x1)), (0, .ref (a 0)), (1, .int x1)]) hx hb d_B_change_20 rfl hl (by decide) rfl (fun ls hl => ?_)
    refine lv_aload_n hx hb d_B_change_21 rfl (lv_at hl 2 rfl) ?_
    refine va_get (D := D) (ci := 0) (v := .ref (a 1)) (C := R_B) (T := F_B) (N := 11) hx hb ht iC_B hown hK hP 0 rfl rfl 0 (by decide) (ht _ ix_43) (fun _ h9 => h9) rfl d_B_change_22 ?_
    refine lv_iload_n hx hb d_B_change_25 rfl (lv_at hl 1 rfl) ?_
    refine lv_aload_n hx hb d_B_change_26 rfl (lv_at hl 2 rfl) ?_
    refine va_get (D := D) (ci := 0) (v := .ref (a 1)) (C := R_B) (T := F_B) (N := 11) hx hb ht iC_B hown hK hP 0 rfl rfl 0 (by decide) (ht _ ix_43) (fun _ h9 => h9) rfl d_B_change_27 ?_
    refine lv_iload_n hx hb d_B_change_30 rfl (lv_at hl 1 rfl) ?_
    refine lv_iconst (v := 1) hx hb d_B_change_31 (by decide) ?_
    refine lv_iadd hx hb d_B_change_32 ?_
    obtain ⟨g_4, h⟩ := gd_some h
    refine va_iald hx hb hK hP 1 0 rfl rfl (inb_in g_4) d_B_change_33 ?_
    obtain ⟨g_5, h⟩ := gd_some h
    refine va_iast hx hb hK hP hD hS 1 0 rfl rfl (inb_in g_5) d_B_change_34 (fun H locs hP hD hS => ?_)
    have hP : va_P D classes (wB a k (upd lab ((4 : Int32) * x1).toNatClampNeg (lab (((4 : Int32) * x1) + (1 : Int32)).toNatClampNeg)) sg cc ci od sd go ta we oe fp ro sp qr qs) H := hP
    have hD : va_D A (wB a k (upd lab ((4 : Int32) * x1).toNatClampNeg (lab (((4 : Int32) * x1) + (1 : Int32)).toNatClampNeg)) sg cc ci od sd go ta we oe fp ro sp qr qs) := hD
    refine lv_aload_n hx hb d_B_change_35 rfl (lv_at hl 2 rfl) ?_
    refine va_get (D := D) (ci := 0) (v := .ref (a 1)) (C := R_B) (T := F_B) (N := 11) hx hb ht iC_B hown hK hP 0 rfl rfl 0 (by decide) (ht _ ix_43) (fun _ h9 => h9) rfl d_B_change_36 ?_
    refine lv_iload_n hx hb d_B_change_39 rfl (lv_at hl 1 rfl) ?_
    refine lv_iconst (v := 1) hx hb d_B_change_40 (by decide) ?_
    refine lv_iadd hx hb d_B_change_41 ?_
    refine lv_aload_n hx hb d_B_change_42 rfl (lv_at hl 2 rfl) ?_
    refine va_get (D := D) (ci := 0) (v := .ref (a 1)) (C := R_B) (T := F_B) (N := 11) hx hb ht iC_B hown hK hP 0 rfl rfl 0 (by decide) (ht _ ix_43) (fun _ h9 => h9) rfl d_B_change_43 ?_
    refine lv_iload_n hx hb d_B_change_46 rfl (lv_at hl 1 rfl) ?_
    refine lv_iconst (v := 2) hx hb d_B_change_47 (by decide) ?_
    refine lv_iadd hx hb d_B_change_48 ?_
    obtain ⟨g_6, h⟩ := gd_some h
    refine va_iald hx hb hK hP 1 0 rfl rfl (inb_in g_6) d_B_change_49 ?_
    obtain ⟨g_7, h⟩ := gd_some h
    refine va_iast hx hb hK hP hD hS 1 0 rfl rfl (inb_in g_7) d_B_change_50 (fun H locs hP hD hS => ?_)
    have hP : va_P D classes (wB a k (upd (upd lab ((4 : Int32) * x1).toNatClampNeg (lab (((4 : Int32) * x1) + (1 : Int32)).toNatClampNeg)) (((4 : Int32) * x1) + (1 : Int32)).toNatClampNeg ((upd lab ((4 : Int32) * x1).toNatClampNeg (lab (((4 : Int32) * x1) + (1 : Int32)).toNatClampNeg)) (((4 : Int32) * x1) + (2 : Int32)).toNatClampNeg)) sg cc ci od sd go ta we oe fp ro sp qr qs) H := hP
    have hD : va_D A (wB a k (upd (upd lab ((4 : Int32) * x1).toNatClampNeg (lab (((4 : Int32) * x1) + (1 : Int32)).toNatClampNeg)) (((4 : Int32) * x1) + (1 : Int32)).toNatClampNeg ((upd lab ((4 : Int32) * x1).toNatClampNeg (lab (((4 : Int32) * x1) + (1 : Int32)).toNatClampNeg)) (((4 : Int32) * x1) + (2 : Int32)).toNatClampNeg)) sg cc ci od sd go ta we oe fp ro sp qr qs) := hD
    refine lv_aload_n hx hb d_B_change_51 rfl (lv_at hl 2 rfl) ?_
    refine va_get (D := D) (ci := 0) (v := .ref (a 1)) (C := R_B) (T := F_B) (N := 11) hx hb ht iC_B hown hK hP 0 rfl rfl 0 (by decide) (ht _ ix_43) (fun _ h9 => h9) rfl d_B_change_52 ?_
    refine lv_iload_n hx hb d_B_change_55 rfl (lv_at hl 1 rfl) ?_
    refine lv_iconst (v := 2) hx hb d_B_change_56 (by decide) ?_
    refine lv_iadd hx hb d_B_change_57 ?_
    refine lv_aload_n hx hb d_B_change_58 rfl (lv_at hl 2 rfl) ?_
    refine va_get (D := D) (ci := 0) (v := .ref (a 1)) (C := R_B) (T := F_B) (N := 11) hx hb ht iC_B hown hK hP 0 rfl rfl 0 (by decide) (ht _ ix_43) (fun _ h9 => h9) rfl d_B_change_59 ?_
    refine lv_iload_n hx hb d_B_change_62 rfl (lv_at hl 1 rfl) ?_
    refine lv_iconst (v := 3) hx hb d_B_change_63 (by decide) ?_
    refine lv_iadd hx hb d_B_change_64 ?_
    obtain ⟨g_8, h⟩ := gd_some h
    refine va_iald hx hb hK hP 1 0 rfl rfl (inb_in g_8) d_B_change_65 ?_
    obtain ⟨g_9, h⟩ := gd_some h
    refine va_iast hx hb hK hP hD hS 1 0 rfl rfl (inb_in g_9) d_B_change_66 (fun H locs hP hD hS => ?_)
    have hP : va_P D classes (wB a k (upd (upd (upd lab ((4 : Int32) * x1).toNatClampNeg (lab (((4 : Int32) * x1) + (1 : Int32)).toNatClampNeg)) (((4 : Int32) * x1) + (1 : Int32)).toNatClampNeg ((upd lab ((4 : Int32) * x1).toNatClampNeg (lab (((4 : Int32) * x1) + (1 : Int32)).toNatClampNeg)) (((4 : Int32) * x1) + (2 : Int32)).toNatClampNeg)) (((4 : Int32) * x1) + (2 : Int32)).toNatClampNeg ((upd (upd lab ((4 : Int32) * x1).toNatClampNeg (lab (((4 : Int32) * x1) + (1 : Int32)).toNatClampNeg)) (((4 : Int32) * x1) + (1 : Int32)).toNatClampNeg ((upd lab ((4 : Int32) * x1).toNatClampNeg (lab (((4 : Int32) * x1) + (1 : Int32)).toNatClampNeg)) (((4 : Int32) * x1) + (2 : Int32)).toNatClampNeg)) (((4 : Int32) * x1) + (3 : Int32)).toNatClampNeg)) sg cc ci od sd go ta we oe fp ro sp qr qs) H := hP
    have hD : va_D A (wB a k (upd (upd (upd lab ((4 : Int32) * x1).toNatClampNeg (lab (((4 : Int32) * x1) + (1 : Int32)).toNatClampNeg)) (((4 : Int32) * x1) + (1 : Int32)).toNatClampNeg ((upd lab ((4 : Int32) * x1).toNatClampNeg (lab (((4 : Int32) * x1) + (1 : Int32)).toNatClampNeg)) (((4 : Int32) * x1) + (2 : Int32)).toNatClampNeg)) (((4 : Int32) * x1) + (2 : Int32)).toNatClampNeg ((upd (upd lab ((4 : Int32) * x1).toNatClampNeg (lab (((4 : Int32) * x1) + (1 : Int32)).toNatClampNeg)) (((4 : Int32) * x1) + (1 : Int32)).toNatClampNeg ((upd lab ((4 : Int32) * x1).toNatClampNeg (lab (((4 : Int32) * x1) + (1 : Int32)).toNatClampNeg)) (((4 : Int32) * x1) + (2 : Int32)).toNatClampNeg)) (((4 : Int32) * x1) + (3 : Int32)).toNatClampNeg)) sg cc ci od sd go ta we oe fp ro sp qr qs) := hD
    refine lv_aload_n hx hb d_B_change_67 rfl (lv_at hl 2 rfl) ?_
    refine va_get (D := D) (ci := 0) (v := .ref (a 1)) (C := R_B) (T := F_B) (N := 11) hx hb ht iC_B hown hK hP 0 rfl rfl 0 (by decide) (ht _ ix_43) (fun _ h9 => h9) rfl d_B_change_68 ?_
    refine lv_iload_n hx hb d_B_change_71 rfl (lv_at hl 1 rfl) ?_
    refine lv_iconst (v := 3) hx hb d_B_change_72 (by decide) ?_
    refine lv_iadd hx hb d_B_change_73 ?_
    refine lv_iload_n hx hb d_B_change_74 rfl (lv_at hl 0 rfl) ?_
    obtain ⟨g_10, h⟩ := gd_some h
    refine va_iast hx hb hK hP hD hS 1 0 rfl rfl (inb_in g_10) d_B_change_75 (fun H locs hP hD hS => ?_)
    have hP : va_P D classes (wB a k (upd (upd (upd (upd lab ((4 : Int32) * x1).toNatClampNeg (lab (((4 : Int32) * x1) + (1 : Int32)).toNatClampNeg)) (((4 : Int32) * x1) + (1 : Int32)).toNatClampNeg ((upd lab ((4 : Int32) * x1).toNatClampNeg (lab (((4 : Int32) * x1) + (1 : Int32)).toNatClampNeg)) (((4 : Int32) * x1) + (2 : Int32)).toNatClampNeg)) (((4 : Int32) * x1) + (2 : Int32)).toNatClampNeg ((upd (upd lab ((4 : Int32) * x1).toNatClampNeg (lab (((4 : Int32) * x1) + (1 : Int32)).toNatClampNeg)) (((4 : Int32) * x1) + (1 : Int32)).toNatClampNeg ((upd lab ((4 : Int32) * x1).toNatClampNeg (lab (((4 : Int32) * x1) + (1 : Int32)).toNatClampNeg)) (((4 : Int32) * x1) + (2 : Int32)).toNatClampNeg)) (((4 : Int32) * x1) + (3 : Int32)).toNatClampNeg)) (((4 : Int32) * x1) + (3 : Int32)).toNatClampNeg (lab ((4 : Int32) * x1).toNatClampNeg)) sg cc ci od sd go ta we oe fp ro sp qr qs) H := hP
    have hD : va_D A (wB a k (upd (upd (upd (upd lab ((4 : Int32) * x1).toNatClampNeg (lab (((4 : Int32) * x1) + (1 : Int32)).toNatClampNeg)) (((4 : Int32) * x1) + (1 : Int32)).toNatClampNeg ((upd lab ((4 : Int32) * x1).toNatClampNeg (lab (((4 : Int32) * x1) + (1 : Int32)).toNatClampNeg)) (((4 : Int32) * x1) + (2 : Int32)).toNatClampNeg)) (((4 : Int32) * x1) + (2 : Int32)).toNatClampNeg ((upd (upd lab ((4 : Int32) * x1).toNatClampNeg (lab (((4 : Int32) * x1) + (1 : Int32)).toNatClampNeg)) (((4 : Int32) * x1) + (1 : Int32)).toNatClampNeg ((upd lab ((4 : Int32) * x1).toNatClampNeg (lab (((4 : Int32) * x1) + (1 : Int32)).toNatClampNeg)) (((4 : Int32) * x1) + (2 : Int32)).toNatClampNeg)) (((4 : Int32) * x1) + (3 : Int32)).toNatClampNeg)) (((4 : Int32) * x1) + (3 : Int32)).toNatClampNeg (lab ((4 : Int32) * x1).toNatClampNeg)) sg cc ci od sd go ta we oe fp ro sp qr qs) := hD
    refine lv_aload_n hx hb d_B_change_76 rfl (lv_at hl 2 rfl) ?_
    refine va_get (D := D) (ci := 0) (v := .ref (a 2)) (C := R_B) (T := F_B) (N := 11) hx hb ht iC_B hown hK hP 0 rfl rfl 1 (by decide) (ht _ ix_53) (fun _ h9 => h9) rfl d_B_change_77 ?_
    refine lv_iload_n hx hb d_B_change_80 rfl (lv_at hl 3 rfl) ?_
    refine lv_aload_n hx hb d_B_change_81 rfl (lv_at hl 2 rfl) ?_
    refine va_get (D := D) (ci := 0) (v := .ref (a 2)) (C := R_B) (T := F_B) (N := 11) hx hb ht iC_B hown hK hP 0 rfl rfl 1 (by decide) (ht _ ix_53) (fun _ h9 => h9) rfl d_B_change_82 ?_
    refine lv_iload_n hx hb d_B_change_85 rfl (lv_at hl 3 rfl) ?_
    obtain ⟨g_11, h⟩ := gd_some h
    refine va_iald hx hb hK hP 2 1 rfl rfl (inb_in g_11) d_B_change_86 ?_
    refine lv_ineg hx hb d_B_change_87 ?_
    obtain ⟨g_12, h⟩ := gd_some h
    refine va_iast hx hb hK hP hD hS 2 1 rfl rfl (inb_in g_12) d_B_change_88 (fun H locs hP hD hS => ?_)
    have hP : va_P D classes (wB a k (upd (upd (upd (upd lab ((4 : Int32) * x1).toNatClampNeg (lab (((4 : Int32) * x1) + (1 : Int32)).toNatClampNeg)) (((4 : Int32) * x1) + (1 : Int32)).toNatClampNeg ((upd lab ((4 : Int32) * x1).toNatClampNeg (lab (((4 : Int32) * x1) + (1 : Int32)).toNatClampNeg)) (((4 : Int32) * x1) + (2 : Int32)).toNatClampNeg)) (((4 : Int32) * x1) + (2 : Int32)).toNatClampNeg ((upd (upd lab ((4 : Int32) * x1).toNatClampNeg (lab (((4 : Int32) * x1) + (1 : Int32)).toNatClampNeg)) (((4 : Int32) * x1) + (1 : Int32)).toNatClampNeg ((upd lab ((4 : Int32) * x1).toNatClampNeg (lab (((4 : Int32) * x1) + (1 : Int32)).toNatClampNeg)) (((4 : Int32) * x1) + (2 : Int32)).toNatClampNeg)) (((4 : Int32) * x1) + (3 : Int32)).toNatClampNeg)) (((4 : Int32) * x1) + (3 : Int32)).toNatClampNeg (lab ((4 : Int32) * x1).toNatClampNeg)) (upd sg x1.toNatClampNeg (-(sg x1.toNatClampNeg))) cc ci od sd go ta we oe fp ro sp qr qs) H := hP
    have hD : va_D A (wB a k (upd (upd (upd (upd lab ((4 : Int32) * x1).toNatClampNeg (lab (((4 : Int32) * x1) + (1 : Int32)).toNatClampNeg)) (((4 : Int32) * x1) + (1 : Int32)).toNatClampNeg ((upd lab ((4 : Int32) * x1).toNatClampNeg (lab (((4 : Int32) * x1) + (1 : Int32)).toNatClampNeg)) (((4 : Int32) * x1) + (2 : Int32)).toNatClampNeg)) (((4 : Int32) * x1) + (2 : Int32)).toNatClampNeg ((upd (upd lab ((4 : Int32) * x1).toNatClampNeg (lab (((4 : Int32) * x1) + (1 : Int32)).toNatClampNeg)) (((4 : Int32) * x1) + (1 : Int32)).toNatClampNeg ((upd lab ((4 : Int32) * x1).toNatClampNeg (lab (((4 : Int32) * x1) + (1 : Int32)).toNatClampNeg)) (((4 : Int32) * x1) + (2 : Int32)).toNatClampNeg)) (((4 : Int32) * x1) + (3 : Int32)).toNatClampNeg)) (((4 : Int32) * x1) + (3 : Int32)).toNatClampNeg (lab ((4 : Int32) * x1).toNatClampNeg)) (upd sg x1.toNatClampNeg (-(sg x1.toNatClampNeg))) cc ci od sd go ta we oe fp ro sp qr qs) := hD
    refine lv_aload_n hx hb d_B_change_89 rfl (lv_at hl 2 rfl) ?_
    obtain ⟨v_13, e_13, h⟩ := bd_some h
    refine go_Vv (As := []) (rest := []) (wc := (wB a k (upd (upd (upd (upd lab ((4 : Int32) * x1).toNatClampNeg (lab (((4 : Int32) * x1) + (1 : Int32)).toNatClampNeg)) (((4 : Int32) * x1) + (1 : Int32)).toNatClampNeg ((upd lab ((4 : Int32) * x1).toNatClampNeg (lab (((4 : Int32) * x1) + (1 : Int32)).toNatClampNeg)) (((4 : Int32) * x1) + (2 : Int32)).toNatClampNeg)) (((4 : Int32) * x1) + (2 : Int32)).toNatClampNeg ((upd (upd lab ((4 : Int32) * x1).toNatClampNeg (lab (((4 : Int32) * x1) + (1 : Int32)).toNatClampNeg)) (((4 : Int32) * x1) + (1 : Int32)).toNatClampNeg ((upd lab ((4 : Int32) * x1).toNatClampNeg (lab (((4 : Int32) * x1) + (1 : Int32)).toNatClampNeg)) (((4 : Int32) * x1) + (2 : Int32)).toNatClampNeg)) (((4 : Int32) * x1) + (3 : Int32)).toNatClampNeg)) (((4 : Int32) * x1) + (3 : Int32)).toNatClampNeg (lab ((4 : Int32) * x1).toNatClampNeg)) (upd sg x1.toNatClampNeg (-(sg x1.toNatClampNeg))) cc ci od sd go ta we oe fp ro sp qr qs)) (wr := []) (w1 := (wB a k (upd (upd (upd (upd lab ((4 : Int32) * x1).toNatClampNeg (lab (((4 : Int32) * x1) + (1 : Int32)).toNatClampNeg)) (((4 : Int32) * x1) + (1 : Int32)).toNatClampNeg ((upd lab ((4 : Int32) * x1).toNatClampNeg (lab (((4 : Int32) * x1) + (1 : Int32)).toNatClampNeg)) (((4 : Int32) * x1) + (2 : Int32)).toNatClampNeg)) (((4 : Int32) * x1) + (2 : Int32)).toNatClampNeg ((upd (upd lab ((4 : Int32) * x1).toNatClampNeg (lab (((4 : Int32) * x1) + (1 : Int32)).toNatClampNeg)) (((4 : Int32) * x1) + (1 : Int32)).toNatClampNeg ((upd lab ((4 : Int32) * x1).toNatClampNeg (lab (((4 : Int32) * x1) + (1 : Int32)).toNatClampNeg)) (((4 : Int32) * x1) + (2 : Int32)).toNatClampNeg)) (((4 : Int32) * x1) + (3 : Int32)).toNatClampNeg)) (((4 : Int32) * x1) + (3 : Int32)).toNatClampNeg (lab ((4 : Int32) * x1).toNatClampNeg)) (upd sg x1.toNatClampNeg (-(sg x1.toNatClampNeg))) cc ci v_13.1 sd go ta v_13.2 oe fp ro sp qr qs)) (w2 := (wB a k (upd (upd (upd (upd lab ((4 : Int32) * x1).toNatClampNeg (lab (((4 : Int32) * x1) + (1 : Int32)).toNatClampNeg)) (((4 : Int32) * x1) + (1 : Int32)).toNatClampNeg ((upd lab ((4 : Int32) * x1).toNatClampNeg (lab (((4 : Int32) * x1) + (1 : Int32)).toNatClampNeg)) (((4 : Int32) * x1) + (2 : Int32)).toNatClampNeg)) (((4 : Int32) * x1) + (2 : Int32)).toNatClampNeg ((upd (upd lab ((4 : Int32) * x1).toNatClampNeg (lab (((4 : Int32) * x1) + (1 : Int32)).toNatClampNeg)) (((4 : Int32) * x1) + (1 : Int32)).toNatClampNeg ((upd lab ((4 : Int32) * x1).toNatClampNeg (lab (((4 : Int32) * x1) + (1 : Int32)).toNatClampNeg)) (((4 : Int32) * x1) + (2 : Int32)).toNatClampNeg)) (((4 : Int32) * x1) + (3 : Int32)).toNatClampNeg)) (((4 : Int32) * x1) + (3 : Int32)).toNatClampNeg (lab ((4 : Int32) * x1).toNatClampNeg)) (upd sg x1.toNatClampNeg (-(sg x1.toNatClampNeg))) cc ci v_13.1 sd go ta v_13.2 oe fp ro sp qr qs)) (tc := [(k 1, .int), (k 2, .int), (k 3, .int), (k 4, .int), (k 5, .boolean), (k 6, .int), (k 8, .int), (k 9, .int), (k 11, .long)]) hx hb hml hown ht (c_B_orderAsGiven l D a k H.size (upd (upd (upd (upd lab ((4 : Int32) * x1).toNatClampNeg (lab (((4 : Int32) * x1) + (1 : Int32)).toNatClampNeg)) (((4 : Int32) * x1) + (1 : Int32)).toNatClampNeg ((upd lab ((4 : Int32) * x1).toNatClampNeg (lab (((4 : Int32) * x1) + (1 : Int32)).toNatClampNeg)) (((4 : Int32) * x1) + (2 : Int32)).toNatClampNeg)) (((4 : Int32) * x1) + (2 : Int32)).toNatClampNeg ((upd (upd lab ((4 : Int32) * x1).toNatClampNeg (lab (((4 : Int32) * x1) + (1 : Int32)).toNatClampNeg)) (((4 : Int32) * x1) + (1 : Int32)).toNatClampNeg ((upd lab ((4 : Int32) * x1).toNatClampNeg (lab (((4 : Int32) * x1) + (1 : Int32)).toNatClampNeg)) (((4 : Int32) * x1) + (2 : Int32)).toNatClampNeg)) (((4 : Int32) * x1) + (3 : Int32)).toNatClampNeg)) (((4 : Int32) * x1) + (3 : Int32)).toNatClampNeg (lab ((4 : Int32) * x1).toNatClampNeg)) (upd sg x1.toNatClampNeg (-(sg x1.toNatClampNeg))) cc ci od sd go ta we oe fp ro sp qr qs v_13 e_13) g_B_54 ⟨rfl, rfl⟩ (n := 0) (by decide +kernel) ⟨(Nat.le_of_ble_eq_true rfl), (Nat.le_of_ble_eq_true rfl)⟩ hP hD hK hS hA ⟨Nat.zero_le _, Nat.zero_le _⟩ [0, 1, 2, 3, 4, 5, 6, 7, 8, 9, 10, 11, 12] [] [0, 1, 2, 3, 4, 5, 6, 7, 8] [0, 1, 2, 3, 4, 5, 6, 7, 8, 9, 10, 11, 12] rfl rfl rfl rfl (by decide) (by decide) (by decide) rfl (by decide) 0 rfl rfl rfl rfl rfl hl.1 (Nat.le_of_ble_eq_true rfl) d_B_change_90 (fun H locs hP hD hS => ?_)
    refine lv_iconst (v := 1) hx hb d_B_change_93 (by decide) ?_
    cases h
    exact W.zret hx hb hr rfl (fun t ht hW => ⟨⟨_, (), rfl, rfl, by rw [ht]; exact hP, va_K.moved hW.alike hK, hD⟩, hS.F ht⟩) hS.2.2 d_B_change_94 hlk
  · have h := ite_T c_2 h
    refine lv_iconst (v := 0) hx hb d_B_change_8 (by decide) ?_
    cases h
    exact W.zret hx hb hr rfl (fun t ht hW => ⟨⟨_, (), rfl, rfl, by rw [ht]; exact hP, va_K.moved hW.alike hK, hD⟩, hS.F ht⟩) hS.2.2 d_B_change_9 hlk
set_option maxRecDepth 20000 in
theorem c_B_change (l : Launch) (D : va_G) (a : Nat → Nat) (k : Nat → ClassId) (sz : Nat) (x1 : Int32) (lab : Nat → Int32) (sg : Nat → Int32) (cc : Int32) (ci : Int32) (od : Nat → Int32) (sd : Nat → Int32) (go : Nat → Int32) (ta : Nat → Int32) (we : Int32) (oe : Nat → Int32) (fp : Nat → Int32) (ro : Nat → Int64) (sp : Nat → Int64) (qr : Nat) (qs : Nat) (r : Int32 × (Nat → Int32) × (Nat → Int32) × (Nat → Int32) × Int32) (h : F_B_change x1 lab sg cc od we = some r) : Met l y_B_change (Cond.code y_B_change b_B_change 4 (some .boolean) :: lw_g) (rm_B_change) (va_Pc [.ref (a 0), .int x1] (pcW D [(k 1, .int), (k 2, .int), (k 3, .int), (k 4, .int), (k 5, .boolean), (k 6, .int), (k 8, .int), (k 9, .int), (k 11, .long)] (wB a k lab sg cc ci od sd go ta we oe fp ro sp qr qs) sz)) (qc_B_change D (va_A (wB a k lab sg cc ci od sd go ta we oe fp ro sp qr qs) sz) a k cc ci sd go ta oe fp ro sp qr qs r) 0 0 (va_A (wB a k lab sg cc ci od sd go ta we oe fp ro sp qr qs) sz) := by
  refine Met.ofW (cc := b_B_change) (maxL := 4) (ret := (some .boolean)) (by decide) rfl ?_
  intro p e s m args below meth c s₁ B hml hv
  obtain ⟨rfl, hsz, hP, hK, hD0⟩ := hv
  have hts := atoms_spec (ws := Cond.code y_B_change b_B_change 4 (some .boolean) :: lw_g) B.pre
  subst hsz
  have hD := hD0.self (sz := s.heap.size)
  have hl := lv_entry ([.ref (a 0), .int x1]) (n := 4) (Nat.le_of_ble_eq_true rfl)
  rw [lg_entry_eq]
  generalize (lg_sl ([.ref (a 0), .int x1]) ++ List.replicate (4 - (lg_sl ([.ref (a 0), .int x1])).length) Slot.unset).toArray = ls at hl ⊢
  exact k_B_change_0 ⟨B.exec, B.bytes, B.returns, hml, findClass_of_methodNamed B.named, fun w hw => hts w (List.mem_cons_of_mem _ hw), B.notSynchronized, fun q h => Or.inr h, hK⟩ _ _ _ _ _ _ _ h _ _ _ hP hD va_S.rf hl

def rm_B_move : Room := { frames := 2, cells := 0, slots := 0, locals := 47 }
def qc_B_move (D : va_G) (A : Nat → Prop) (a : Nat → Nat) (k : Nat → ClassId) (cc : Int32) (ci : Int32) (sd : Nat → Int32) (go : Nat → Int32) (ta : Nat → Int32) (oe : Nat → Int32) (fp : Nat → Int32) (ro : Nat → Int64) (sp : Nat → Int64) (qr : Nat) (qs : Nat) (r : Int32 × (Nat → Int32) × (Nat → Int32) × (Nat → Int32) × Int32) : Array Value → State → Outcome → State → Prop := va_Qi (fun (r1 : Int32) (_ : Unit) => r1 = r.1) (poW D [(k 1, .int), (k 2, .int), (k 3, .int), (k 4, .int), (k 5, .boolean), (k 6, .int), (k 8, .int), (k 9, .int), (k 11, .long)] (wB a k r.2.1 r.2.2.1 cc ci r.2.2.2.1 sd go ta r.2.2.2.2 oe fp ro sp qr qs) A) A
def J_B_move_0 (x1 : Int32) (x2 : Int32) (lab : Nat → Int32) (sg : Nat → Int32) (cc : Int32) (od : Nat → Int32) (we : Int32) : Option (Int32 × (Nat → Int32) × (Nat → Int32) × (Nat → Int32) × Int32) :=
  (Option.bind (F_B_isCrossing x1 cc) (fun v_1 => (if v_1 = 0 then some ((0 : Int32), lab, sg, od, we) else (Option.bind (F_B_isCrossing x2 cc) (fun v_3 => (if v_3 = 0 then some ((0 : Int32), lab, sg, od, we) else (Option.bind (F_B_carry x1 x2 lab sg) (fun v_5 => (Option.bind (F_B_orderAsGiven od we) (fun v_6 => some ((1 : Int32), v_5.1, v_5.2, v_6.1, v_6.2)))))))))))
def F_B_move (x1 : Int32) (x2 : Int32) (lab : Nat → Int32) (sg : Nat → Int32) (cc : Int32) (od : Nat → Int32) (we : Int32) : Option (Int32 × (Nat → Int32) × (Nat → Int32) × (Nat → Int32) × Int32) := J_B_move_0 x1 x2 lab sg cc od we
def H_B_move_0 (p : Program) (l : Launch) (e : Env) (s : State) (m : MethodId) (args : Array Value) (below : List Frame) (meth : Method) (c : Code) (D : va_G) (A : Nat → Prop) (a : Nat → Nat) (k : Nat → ClassId) (ci : Int32) (sd : Nat → Int32) (go : Nat → Int32) (ta : Nat → Int32) (oe : Nat → Int32) (fp : Nat → Int32) (ro : Nat → Int64) (sp : Nat → Int64) (qr : Nat) (qs : Nat) (f : Int32 → Int32 → (Nat → Int32) → (Nat → Int32) → Int32 → (Nat → Int32) → Int32 → Option (Int32 × (Nat → Int32) × (Nat → Int32) × (Nat → Int32) × Int32)) : Prop := ∀ (x1 : Int32) (x2 : Int32) (lab : Nat → Int32) (sg : Nat → Int32) (cc : Int32) (od : Nat → Int32) (we : Int32) (r : Int32 × (Nat → Int32) × (Nat → Int32) × (Nat → Int32) × Int32), f x1 x2 lab sg cc od we = some r → ∀ (H : Heap) (locs : List Loc) (ls : Array Slot), va_P D classes (wB a k lab sg cc ci od sd go ta we oe fp ro sp qr qs) H → va_D A (wB a k lab sg cc ci od sd go ta we oe fp ro sp qr qs) → va_S A s.heap H locs → lv_has ls 3 [(0, .ref (a 0)), (1, .int x1), (2, .int x2)] → W p l e (rm_B_move) s m args below meth c H locs 0 0 (MQ below (qc_B_move D A a k cc ci sd go ta oe fp ro sp qr qs r) args s 0 0 A) (F0 m 0 ls [])
set_option maxHeartbeats 4000000 in
set_option maxRecDepth 100000 in
theorem k_B_move_0 {p : Program} {l : Launch} {e : Env} {s : State} {m : MethodId} {args : Array Value} {below : List Frame} {meth : Method} {c : Code} {D : va_G} {A : Nat → Prop} {a : Nat → Nat} {k : Nat → ClassId} {ci : Int32} {sd : Nat → Int32} {go : Nat → Int32} {ta : Nat → Int32} {oe : Nat → Int32} {fp : Nat → Int32} {ro : Nat → Int64} {sp : Nat → Int64} {qr : Nat} {qs : Nat} (C : cx D [(k 1, .int), (k 2, .int), (k 3, .int), (k 4, .int), (k 5, .boolean), (k 6, .int), (k 8, .int), (k 9, .int), (k 11, .long)] R_B b_B_move 3 (some .boolean) A p s m args meth c) : H_B_move_0 p l e s m args below meth c D A a k ci sd go ta oe fp ro sp qr qs (J_B_move_0) := by
  obtain ⟨hx, hb, hr, hml, hown, ht, hlk, hA, hK⟩ := id C
  intro x1 x2 lab sg cc od we r h H locs ls hP hD hS hl
  unfold J_B_move_0 at h
  refine lv_aload_n hx hb d_B_move_0 rfl (lv_at hl 0 rfl) ?_
  refine lv_iload_n hx hb d_B_move_1 rfl (lv_at hl 1 rfl) ?_
  obtain ⟨v_1, e_1, h⟩ := bd_some h
  refine go_Vi (r := v_1) (As := [.int x1]) (rest := []) (wc := (wB a k lab sg cc ci od sd go ta we oe fp ro sp qr qs)) (wr := []) (w1 := (wB a k lab sg cc ci od sd go ta we oe fp ro sp qr qs)) (w2 := (wB a k lab sg cc ci od sd go ta we oe fp ro sp qr qs)) (tc := [(k 1, .int), (k 2, .int), (k 3, .int), (k 4, .int), (k 5, .boolean), (k 6, .int), (k 8, .int), (k 9, .int), (k 11, .long)]) hx hb hml hown ht (c_B_isCrossing l D a k H.size x1 lab sg cc ci od sd go ta we oe fp ro sp qr qs v_1 e_1) g_B_64 ⟨rfl, rfl⟩ (n := 1) (by decide +kernel) ⟨(Nat.le_of_ble_eq_true rfl), (Nat.le_of_ble_eq_true rfl)⟩ hP hD hK hS hA ⟨Nat.zero_le _, Nat.zero_le _⟩ [0, 1, 2, 3, 4, 5, 6, 7, 8, 9, 10, 11, 12] [] [0, 1, 2, 3, 4, 5, 6, 7, 8] [0, 1, 2, 3, 4, 5, 6, 7, 8, 9, 10, 11, 12] rfl rfl rfl rfl (by decide) (by decide) (by decide) rfl (by decide) 0 rfl rfl rfl rfl rfl hl.1 (Nat.le_of_ble_eq_true rfl) d_B_move_2 (fun H locs hP hD hS => ?_)
  refine lv_if_eq (tgt := 16) hx hb d_B_move_5 (by decide) (fun c_2 => ?_) (fun c_2 => ?_)
  · have h := ite_T c_2 h
    refine lv_iconst (v := 0) hx hb d_B_move_16 (by decide) ?_
    cases h
    exact W.zret hx hb hr rfl (fun t ht hW => ⟨⟨_, (), rfl, rfl, by rw [ht]; exact hP, va_K.moved hW.alike hK, hD⟩, hS.F ht⟩) hS.2.2 d_B_move_17 hlk
  · have h := ite_F c_2 h
    refine lv_aload_n hx hb d_B_move_8 rfl (lv_at hl 0 rfl) ?_
    refine lv_iload_n hx hb d_B_move_9 rfl (lv_at hl 2 rfl) ?_
    obtain ⟨v_3, e_3, h⟩ := bd_some h
    refine go_Vi (r := v_3) (As := [.int x2]) (rest := []) (wc := (wB a k lab sg cc ci od sd go ta we oe fp ro sp qr qs)) (wr := []) (w1 := (wB a k lab sg cc ci od sd go ta we oe fp ro sp qr qs)) (w2 := (wB a k lab sg cc ci od sd go ta we oe fp ro sp qr qs)) (tc := [(k 1, .int), (k 2, .int), (k 3, .int), (k 4, .int), (k 5, .boolean), (k 6, .int), (k 8, .int), (k 9, .int), (k 11, .long)]) hx hb hml hown ht (c_B_isCrossing l D a k H.size x2 lab sg cc ci od sd go ta we oe fp ro sp qr qs v_3 e_3) g_B_64 ⟨rfl, rfl⟩ (n := 1) (by decide +kernel) ⟨(Nat.le_of_ble_eq_true rfl), (Nat.le_of_ble_eq_true rfl)⟩ hP hD hK hS hA ⟨Nat.zero_le _, Nat.zero_le _⟩ [0, 1, 2, 3, 4, 5, 6, 7, 8, 9, 10, 11, 12] [] [0, 1, 2, 3, 4, 5, 6, 7, 8] [0, 1, 2, 3, 4, 5, 6, 7, 8, 9, 10, 11, 12] rfl rfl rfl rfl (by decide) (by decide) (by decide) rfl (by decide) 0 rfl rfl rfl rfl rfl hl.1 (Nat.le_of_ble_eq_true rfl) d_B_move_10 (fun H locs hP hD hS => ?_)
    refine lv_if_ne (tgt := 18) hx hb d_B_move_13 (by decide) (fun c_4 => ?_) (fun c_4 => ?_)
    · have h := ite_F c_4 h
      refine lv_aload_n hx hb d_B_move_18 rfl (lv_at hl 0 rfl) ?_
      refine lv_iload_n hx hb d_B_move_19 rfl (lv_at hl 1 rfl) ?_
      refine lv_iload_n hx hb d_B_move_20 rfl (lv_at hl 2 rfl) ?_
      obtain ⟨v_5, e_5, h⟩ := bd_some h
      refine go_Vv (As := [.int x1, .int x2]) (rest := []) (wc := (wB a k lab sg cc ci od sd go ta we oe fp ro sp qr qs)) (wr := []) (w1 := (wB a k v_5.1 v_5.2 cc ci od sd go ta we oe fp ro sp qr qs)) (w2 := (wB a k v_5.1 v_5.2 cc ci od sd go ta we oe fp ro sp qr qs)) (tc := [(k 1, .int), (k 2, .int), (k 3, .int), (k 4, .int), (k 5, .boolean), (k 6, .int), (k 8, .int), (k 9, .int), (k 11, .long)]) hx hb hml hown ht (c_B_carry l D a k H.size x1 x2 lab sg cc ci od sd go ta we oe fp ro sp qr qs v_5 e_5) g_B_128 ⟨rfl, rfl⟩ (n := 2) (by decide +kernel) ⟨(Nat.le_of_ble_eq_true rfl), (Nat.le_of_ble_eq_true rfl)⟩ hP hD hK hS hA ⟨Nat.zero_le _, Nat.zero_le _⟩ [0, 1, 2, 3, 4, 5, 6, 7, 8, 9, 10, 11, 12] [] [0, 1, 2, 3, 4, 5, 6, 7, 8] [0, 1, 2, 3, 4, 5, 6, 7, 8, 9, 10, 11, 12] rfl rfl rfl rfl (by decide) (by decide) (by decide) rfl (by decide) 0 rfl rfl rfl rfl rfl hl.1 (Nat.le_of_ble_eq_true rfl) d_B_move_21 (fun H locs hP hD hS => ?_)
      refine lv_aload_n hx hb d_B_move_24 rfl (lv_at hl 0 rfl) ?_
      obtain ⟨v_6, e_6, h⟩ := bd_some h
      refine go_Vv (As := []) (rest := []) (wc := (wB a k v_5.1 v_5.2 cc ci od sd go ta we oe fp ro sp qr qs)) (wr := []) (w1 := (wB a k v_5.1 v_5.2 cc ci v_6.1 sd go ta v_6.2 oe fp ro sp qr qs)) (w2 := (wB a k v_5.1 v_5.2 cc ci v_6.1 sd go ta v_6.2 oe fp ro sp qr qs)) (tc := [(k 1, .int), (k 2, .int), (k 3, .int), (k 4, .int), (k 5, .boolean), (k 6, .int), (k 8, .int), (k 9, .int), (k 11, .long)]) hx hb hml hown ht (c_B_orderAsGiven l D a k H.size v_5.1 v_5.2 cc ci od sd go ta we oe fp ro sp qr qs v_6 e_6) g_B_54 ⟨rfl, rfl⟩ (n := 0) (by decide +kernel) ⟨(Nat.le_of_ble_eq_true rfl), (Nat.le_of_ble_eq_true rfl)⟩ hP hD hK hS hA ⟨Nat.zero_le _, Nat.zero_le _⟩ [0, 1, 2, 3, 4, 5, 6, 7, 8, 9, 10, 11, 12] [] [0, 1, 2, 3, 4, 5, 6, 7, 8] [0, 1, 2, 3, 4, 5, 6, 7, 8, 9, 10, 11, 12] rfl rfl rfl rfl (by decide) (by decide) (by decide) rfl (by decide) 0 rfl rfl rfl rfl rfl hl.1 (Nat.le_of_ble_eq_true rfl) d_B_move_25 (fun H locs hP hD hS => ?_)
      refine lv_iconst (v := 1) hx hb d_B_move_28 (by decide) ?_
      cases h
      exact W.zret hx hb hr rfl (fun t ht hW => ⟨⟨_, (), rfl, rfl, by rw [ht]; exact hP, va_K.moved hW.alike hK, hD⟩, hS.F ht⟩) hS.2.2 d_B_move_29 hlk
    · have h := ite_T c_4 h
      refine lv_iconst (v := 0) hx hb d_B_move_16 (by decide) ?_
      cases h
      exact W.zret hx hb hr rfl (fun t ht hW => ⟨⟨_, (), rfl, rfl, by rw [ht]; exact hP, va_K.moved hW.alike hK, hD⟩, hS.F ht⟩) hS.2.2 d_B_move_17 hlk
set_option maxRecDepth 20000 in
theorem c_B_move (l : Launch) (D : va_G) (a : Nat → Nat) (k : Nat → ClassId) (sz : Nat) (x1 : Int32) (x2 : Int32) (lab : Nat → Int32) (sg : Nat → Int32) (cc : Int32) (ci : Int32) (od : Nat → Int32) (sd : Nat → Int32) (go : Nat → Int32) (ta : Nat → Int32) (we : Int32) (oe : Nat → Int32) (fp : Nat → Int32) (ro : Nat → Int64) (sp : Nat → Int64) (qr : Nat) (qs : Nat) (r : Int32 × (Nat → Int32) × (Nat → Int32) × (Nat → Int32) × Int32) (h : F_B_move x1 x2 lab sg cc od we = some r) : Met l y_B_move (Cond.code y_B_move b_B_move 3 (some .boolean) :: lw_g) (rm_B_move) (va_Pc [.ref (a 0), .int x1, .int x2] (pcW D [(k 1, .int), (k 2, .int), (k 3, .int), (k 4, .int), (k 5, .boolean), (k 6, .int), (k 8, .int), (k 9, .int), (k 11, .long)] (wB a k lab sg cc ci od sd go ta we oe fp ro sp qr qs) sz)) (qc_B_move D (va_A (wB a k lab sg cc ci od sd go ta we oe fp ro sp qr qs) sz) a k cc ci sd go ta oe fp ro sp qr qs r) 0 0 (va_A (wB a k lab sg cc ci od sd go ta we oe fp ro sp qr qs) sz) := by
  refine Met.ofW (cc := b_B_move) (maxL := 3) (ret := (some .boolean)) (by decide) rfl ?_
  intro p e s m args below meth c s₁ B hml hv
  obtain ⟨rfl, hsz, hP, hK, hD0⟩ := hv
  have hts := atoms_spec (ws := Cond.code y_B_move b_B_move 3 (some .boolean) :: lw_g) B.pre
  subst hsz
  have hD := hD0.self (sz := s.heap.size)
  have hl := lv_entry ([.ref (a 0), .int x1, .int x2]) (n := 3) (Nat.le_of_ble_eq_true rfl)
  rw [lg_entry_eq]
  generalize (lg_sl ([.ref (a 0), .int x1, .int x2]) ++ List.replicate (3 - (lg_sl ([.ref (a 0), .int x1, .int x2])).length) Slot.unset).toArray = ls at hl ⊢
  exact k_B_move_0 ⟨B.exec, B.bytes, B.returns, hml, findClass_of_methodNamed B.named, fun w hw => hts w (List.mem_cons_of_mem _ hw), B.notSynchronized, fun q h => Or.inr h, hK⟩ _ _ _ _ _ _ _ _ h _ _ _ hP hD va_S.rf hl
