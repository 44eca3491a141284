def rm_M_resolve : Room := { frames := 2, cells := 0, slots := 0, locals := 45 }
def qc_M_resolve (D : va_G) (A : Nat → Prop) (a : Nat → Nat) (k : Nat → ClassId) (mh : Int32) (mm : Nat → Int32) (mt : Nat → Int32) (mo : Nat → Int32) (mr : Nat → Int64) (my : Nat → Int32) (mb : Nat → Int64) (r : Int32 × Int32 × Int32 × (Nat → Int32) × (Nat → Int32) × Int32 × (Nat → Int32)) : Array Value → State → Outcome → State → Prop := va_Qi (fun (r1 : Int32) (_ : Unit) => r1 = r.1) (poW D [(k 21, .int), (k 22, .int), (k 23, .int), (k 24, .boolean), (k 25, .boolean), (k 26, .long), (k 27, .int), (k 28, .long), (k 29, .int)] (wM a k mh r.2.1 r.2.2.1 r.2.2.2.1 r.2.2.2.2.1 mm mt mo r.2.2.2.2.2.1 mr my mb r.2.2.2.2.2.2) A) A
def J_M_resolve_237 (y0 : Int32) (y1 : Int32) (mn : Int32) (mc : Int32) (ms : Nat → Int32) (ml : Nat → Int32) (mk : Int32) (mf : Nat → Int32) : Option (Int32 × Int32 × Int32 × (Nat → Int32) × (Nat → Int32) × Int32 × (Nat → Int32)) :=
  some ((1 : Int32), mn, (y1 + y0), ms, ml, (0 : Int32), mf)
def J_M_resolve_189 (x2 : Int32) (y0 : Int32) (y1 : Int32) (mn : Int32) (mc : Int32) (ms : Nat → Int32) (ml : Nat → Int32) (mk : Int32) (mf : Nat → Int32) : Option (Int32 × Int32 × Int32 × (Nat → Int32) × (Nat → Int32) × Int32 × (Nat → Int32)) :=
  (if x2 = 0 then (if inb (3 : Int32) 4 then (if inb (0 : Int32) 4 then (Option.bind (F_M_join (mf (3 : Int32).toNatClampNeg) (mf (0 : Int32).toNatClampNeg) mn ml mf) (fun v_4 => J_M_resolve_237 v_4.1 (y1 + y0) mn (y1 + y0) ms v_4.2.1 mk v_4.2.2)) else none) else none) else (if inb (2 : Int32) 4 then (if inb (3 : Int32) 4 then (Option.bind (F_M_join (mf (2 : Int32).toNatClampNeg) (mf (3 : Int32).toNatClampNeg) mn ml mf) (fun v_7 => J_M_resolve_237 v_7.1 (y1 + y0) mn (y1 + y0) ms v_7.2.1 mk v_7.2.2)) else none) else none))
def J_M_resolve_103 (rec78 : Int32 → Int32 → Int32 → Int32 → (Nat → Int32) → (Nat → Int32) → Int32 → (Nat → Int32) → Option (Int32 × Int32 × Int32 × (Nat → Int32) × (Nat → Int32) × Int32 × (Nat → Int32))) (rec103 : Int32 → Int32 → Int32 → Int32 → Int32 → (Nat → Int32) → (Nat → Int32) → Int32 → (Nat → Int32) → Option (Int32 × Int32 × Int32 × (Nat → Int32) × (Nat → Int32) × Int32 × (Nat → Int32))) (x2 : Int32) (x3 : Int32) (x4 : Int32) (mn : Int32) (mc : Int32) (ms : Nat → Int32) (ml : Nat → Int32) (mk : Int32) (mf : Nat → Int32) : Option (Int32 × Int32 × Int32 × (Nat → Int32) × (Nat → Int32) × Int32 × (Nat → Int32)) :=
  (if (4 : Int32) ≤ x4 then rec78 x2 (x3 + 1) mn mc ms ml mk mf else (if inb ((((4 : Int32) * x3) + (4 : Int32)) + x4) 40 then (if inb (((4 : Int32) * x3) + x4) 40 then rec103 x2 x3 (x4 + 1) mn mc ms (upd ml (((4 : Int32) * x3) + x4).toNatClampNeg (ml ((((4 : Int32) * x3) + (4 : Int32)) + x4).toNatClampNeg)) mk mf else none) else none))
def L_M_resolve_103 (rec78 : Int32 → Int32 → Int32 → Int32 → (Nat → Int32) → (Nat → Int32) → Int32 → (Nat → Int32) → Option (Int32 × Int32 × Int32 × (Nat → Int32) × (Nat → Int32) × Int32 × (Nat → Int32))) : Nat → Int32 → Int32 → Int32 → Int32 → Int32 → (Nat → Int32) → (Nat → Int32) → Int32 → (Nat → Int32) → Option (Int32 × Int32 × Int32 × (Nat → Int32) × (Nat → Int32) × Int32 × (Nat → Int32))
  | 0 => fun _ _ _ _ _ _ _ _ _ => none
  | n + 1 => J_M_resolve_103 rec78 (L_M_resolve_103 rec78 n)
def J_M_resolve_78 (rec78 : Int32 → Int32 → Int32 → Int32 → (Nat → Int32) → (Nat → Int32) → Int32 → (Nat → Int32) → Option (Int32 × Int32 × Int32 × (Nat → Int32) × (Nat → Int32) × Int32 × (Nat → Int32))) (x2 : Int32) (x3 : Int32) (mn : Int32) (mc : Int32) (ms : Nat → Int32) (ml : Nat → Int32) (mk : Int32) (mf : Nat → Int32) : Option (Int32 × Int32 × Int32 × (Nat → Int32) × (Nat → Int32) × Int32 × (Nat → Int32)) :=
  (if mn ≤ x3 then (if x2 = 0 then (if inb (1 : Int32) 4 then (if inb (2 : Int32) 4 then (Option.bind (F_M_join (mf (1 : Int32).toNatClampNeg) (mf (2 : Int32).toNatClampNeg) mn ml mf) (fun v_5 => J_M_resolve_189 x2 v_5.1 mc mn mc ms v_5.2.1 mk v_5.2.2)) else none) else none) else (if inb (0 : Int32) 4 then (if inb (1 : Int32) 4 then (Option.bind (F_M_join (mf (0 : Int32).toNatClampNeg) (mf (1 : Int32).toNatClampNeg) mn ml mf) (fun v_8 => J_M_resolve_189 x2 v_8.1 mc mn mc ms v_8.2.1 mk v_8.2.2)) else none) else none)) else (if inb (x3 + (1 : Int32)) 10 then (if inb x3 10 then L_M_resolve_103 rec78 fu x2 x3 (0 : Int32) mn mc (upd ms x3.toNatClampNeg (ms (x3 + (1 : Int32)).toNatClampNeg)) ml mk mf else none) else none))
def L_M_resolve_78 : Nat → Int32 → Int32 → Int32 → Int32 → (Nat → Int32) → (Nat → Int32) → Int32 → (Nat → Int32) → Option (Int32 × Int32 × Int32 × (Nat → Int32) × (Nat → Int32) × Int32 × (Nat → Int32))
  | 0 => fun _ _ _ _ _ _ _ _ => none
  | n + 1 => J_M_resolve_78 (L_M_resolve_78 n)
def J_M_resolve_39 (rec39 : Int32 → Int32 → Int32 → Int32 → Int32 → (Nat → Int32) → (Nat → Int32) → Int32 → (Nat → Int32) → Option (Int32 × Int32 × Int32 × (Nat → Int32) × (Nat → Int32) × Int32 × (Nat → Int32))) (x1 : Int32) (x2 : Int32) (x3 : Int32) (mn : Int32) (mc : Int32) (ms : Nat → Int32) (ml : Nat → Int32) (mk : Int32) (mf : Nat → Int32) : Option (Int32 × Int32 × Int32 × (Nat → Int32) × (Nat → Int32) × Int32 × (Nat → Int32)) :=
  (if (4 : Int32) ≤ x3 then L_M_resolve_78 fu x2 x1 (mn - (1 : Int32)) mc ms ml mk mf else (if inb (((4 : Int32) * x1) + x3) 40 then (if inb x3 4 then rec39 x1 x2 (x3 + 1) mn mc ms ml mk (upd mf x3.toNatClampNeg (ml (((4 : Int32) * x1) + x3).toNatClampNeg)) else none) else none))
def L_M_resolve_39 : Nat → Int32 → Int32 → Int32 → Int32 → Int32 → (Nat → Int32) → (Nat → Int32) → Int32 → (Nat → Int32) → Option (Int32 × Int32 × Int32 × (Nat → Int32) × (Nat → Int32) × Int32 × (Nat → Int32))
  | 0 => fun _ _ _ _ _ _ _ _ _ => none
  | n + 1 => J_M_resolve_39 (L_M_resolve_39 n)
def J_M_resolve_0 (x1 : Int32) (x2 : Int32) (mn : Int32) (mc : Int32) (ms : Nat → Int32) (ml : Nat → Int32) (mk : Int32) (mf : Nat → Int32) : Option (Int32 × Int32 × Int32 × (Nat → Int32) × (Nat → Int32) × Int32 × (Nat → Int32)) :=
  (if x1 < 0 then some ((0 : Int32), mn, mc, ms, ml, mk, mf) else (if mn ≤ x1 then some ((0 : Int32), mn, mc, ms, ml, mk, mf) else (Option.bind (F_M_fault mn ml) (fun v_3 => (if 0 < v_3 then some ((0 : Int32), mn, mc, ms, ml, mk, mf) else (Option.bind (F_M_closing x1 x2 ml) (fun v_5 => (if (mc + v_5) ≤ (9 : Int32) then L_M_resolve_39 fu x1 x2 (0 : Int32) mn mc ms ml mk mf else some ((0 : Int32), mn, mc, ms, ml, mk, mf)))))))))
def F_M_resolve (x1 : Int32) (x2 : Int32) (mn : Int32) (mc : Int32) (ms : Nat → Int32) (ml : Nat → Int32) (mk : Int32) (mf : Nat → Int32) : Option (Int32 × Int32 × Int32 × (Nat → Int32) × (Nat → Int32) × Int32 × (Nat → Int32)) := J_M_resolve_0 x1 x2 mn mc ms ml mk mf
def H_M_resolve_237 (p : Program) (l : Launch) (e : Env) (s : State) (m : MethodId) (args : Array Value) (below : List Frame) (meth : Method) (c : Code) (D : va_G) (A : Nat → Prop) (a : Nat → Nat) (k : Nat → ClassId) (mh : Int32) (mm : Nat → Int32) (mt : Nat → Int32) (mo : Nat → Int32) (mr : Nat → Int64) (my : Nat → Int32) (mb : Nat → Int64) (f : Int32 → Int32 → Int32 → Int32 → (Nat → Int32) → (Nat → Int32) → Int32 → (Nat → Int32) → Option (Int32 × Int32 × Int32 × (Nat → Int32) × (Nat → Int32) × Int32 × (Nat → Int32))) : Prop := ∀ (y0 : Int32) (y1 : Int32) (mn : Int32) (mc : Int32) (ms : Nat → Int32) (ml : Nat → Int32) (mk : Int32) (mf : Nat → Int32) (r : Int32 × Int32 × Int32 × (Nat → Int32) × (Nat → Int32) × Int32 × (Nat → Int32)), f y0 y1 mn mc ms ml mk mf = some r → ∀ (H : Heap) (locs : List Loc) (ls : Array Slot), va_P D classes (wM a k mh mn mc ms ml mm mt mo mk mr my mb mf) H → va_D A (wM a k mh mn mc ms ml mm mt mo mk mr my mb mf) → va_S A s.heap H locs → lv_has ls 5 [(0, .ref (a 20))] → W p l e (rm_M_resolve) s m args below meth c H locs 0 0 (MQ below (qc_M_resolve D A a k mh mm mt mo mr my mb r) args s 0 0 A) (F0 m 237 ls [.int y0, .int y1, .ref (a 20)])
def H_M_resolve_189 (p : Program) (l : Launch) (e : Env) (s : State) (m : MethodId) (args : Array Value) (below : List Frame) (meth : Method) (c : Code) (D : va_G) (A : Nat → Prop) (a : Nat → Nat) (k : Nat → ClassId) (mh : Int32) (mm : Nat → Int32) (mt : Nat → Int32) (mo : Nat → Int32) (mr : Nat → Int64) (my : Nat → Int32) (mb : Nat → Int64) (f : Int32 → Int32 → Int32 → Int32 → Int32 → (Nat → Int32) → (Nat → Int32) → Int32 → (Nat → Int32) → Option (Int32 × Int32 × Int32 × (Nat → Int32) × (Nat → Int32) × Int32 × (Nat → Int32))) : Prop := ∀ (x2 : Int32) (y0 : Int32) (y1 : Int32) (mn : Int32) (mc : Int32) (ms : Nat → Int32) (ml : Nat → Int32) (mk : Int32) (mf : Nat → Int32) (r : Int32 × Int32 × Int32 × (Nat → Int32) × (Nat → Int32) × Int32 × (Nat → Int32)), f x2 y0 y1 mn mc ms ml mk mf = some r → ∀ (H : Heap) (locs : List Loc) (ls : Array Slot), va_P D classes (wM a k mh mn mc ms ml mm mt mo mk mr my mb mf) H → va_D A (wM a k mh mn mc ms ml mm mt mo mk mr my mb mf) → va_S A s.heap H locs → lv_has ls 5 [(0, .ref (a 20)), (2, .int x2)] → W p l e (rm_M_resolve) s m args below meth c H locs 0 0 (MQ below (qc_M_resolve D A a k mh mm mt mo mr my mb r) args s 0 0 A) (F0 m 189 ls [.int y0, .int y1, .ref (a 20)])
def H_M_resolve_103 (p : Program) (l : Launch) (e : Env) (s : State) (m : MethodId) (args : Array Value) (below : List Frame) (meth : Method) (c : Code) (D : va_G) (A : Nat → Prop) (a : Nat → Nat) (k : Nat → ClassId) (mh : Int32) (mm : Nat → Int32) (mt : Nat → Int32) (mo : Nat → Int32) (mr : Nat → Int64) (my : Nat → Int32) (mb : Nat → Int64) (f : Int32 → Int32 → Int32 → Int32 → Int32 → (Nat → Int32) → (Nat → Int32) → Int32 → (Nat → Int32) → Option (Int32 × Int32 × Int32 × (Nat → Int32) × (Nat → Int32) × Int32 × (Nat → Int32))) : Prop := ∀ (x2 : Int32) (x3 : Int32) (x4 : Int32) (mn : Int32) (mc : Int32) (ms : Nat → Int32) (ml : Nat → Int32) (mk : Int32) (mf : Nat → Int32) (r : Int32 × Int32 × Int32 × (Nat → Int32) × (Nat → Int32) × Int32 × (Nat → Int32)), f x2 x3 x4 mn mc ms ml mk mf = some r → ∀ (H : Heap) (locs : List Loc) (ls : Array Slot), va_P D classes (wM a k mh mn mc ms ml mm mt mo mk mr my mb mf) H → va_D A (wM a k mh mn mc ms ml mm mt mo mk mr my mb mf) → va_S A s.heap H locs → lv_has ls 5 [(0, .ref (a 20)), (2, .int x2), (3, .int x3), (4, .int x4)] → W p l e (rm_M_resolve) s m args below meth c H locs 0 0 (MQ below (qc_M_resolve D A a k mh mm mt mo mr my mb r) args s 0 0 A) (F0 m 103 ls [])
def H_M_resolve_78 (p : Program) (l : Launch) (e : Env) (s : State) (m : MethodId) (args : Array Value) (below : List Frame) (meth : Method) (c : Code) (D : va_G) (A : Nat → Prop) (a : Nat → Nat) (k : Nat → ClassId) (mh : Int32) (mm : Nat → Int32) (mt : Nat → Int32) (mo : Nat → Int32) (mr : Nat → Int64) (my : Nat → Int32) (mb : Nat → Int64) (f : Int32 → Int32 → Int32 → Int32 → (Nat → Int32) → (Nat → Int32) → Int32 → (Nat → Int32) → Option (Int32 × Int32 × Int32 × (Nat → Int32) × (Nat → Int32) × Int32 × (Nat → Int32))) : Prop := ∀ (x2 : Int32) (x3 : Int32) (mn : Int32) (mc : Int32) (ms : Nat → Int32) (ml : Nat → Int32) (mk : Int32) (mf : Nat → Int32) (r : Int32 × Int32 × Int32 × (Nat → Int32) × (Nat → Int32) × Int32 × (Nat → Int32)), f x2 x3 mn mc ms ml mk mf = some r → ∀ (H : Heap) (locs : List Loc) (ls : Array Slot), va_P D classes (wM a k mh mn mc ms ml mm mt mo mk mr my mb mf) H → va_D A (wM a k mh mn mc ms ml mm mt mo mk mr my mb mf) → va_S A s.heap H locs → lv_has ls 5 [(0, .ref (a 20)), (2, .int x2), (3, .int x3)] → W p l e (rm_M_resolve) s m args below meth c H locs 0 0 (MQ below (qc_M_resolve D A a k mh mm mt mo mr my mb r) args s 0 0 A) (F0 m 78 ls [])
def H_M_resolve_39 (p : Program) (l : Launch) (e : Env) (s : State) (m : MethodId) (args : Array Value) (below : List Frame) (meth : Method) (c : Code) (D : va_G) (A : Nat → Prop) (a : Nat → Nat) (k : Nat → ClassId) (mh : Int32) (mm : Nat → Int32) (mt : Nat → Int32) (mo : Nat → Int32) (mr : Nat → Int64) (my : Nat → Int32) (mb : Nat → Int64) (f : Int32 → Int32 → Int32 → Int32 → Int32 → (Nat → Int32) → (Nat → Int32) → Int32 → (Nat → Int32) → Option (Int32 × Int32 × Int32 × (Nat → Int32) × (Nat → Int32) × Int32 × (Nat → Int32))) : Prop := ∀ (x1 : Int32) (x2 : Int32) (x3 : Int32) (mn : Int32) (mc : Int32) (ms : Nat → Int32) (ml : Nat → Int32) (mk : Int32) (mf : Nat → Int32) (r : Int32 × Int32 × Int32 × (Nat → Int32) × (Nat → Int32) × Int32 × (Nat → Int32)), f x1 x2 x3 mn mc ms ml mk mf = some r → ∀ (H : Heap) (locs : List Loc) (ls : Array Slot), va_P D classes (wM a k mh mn mc ms ml mm mt mo mk mr my mb mf) H → va_D A (wM a k mh mn mc ms ml mm mt mo mk mr my mb mf) → va_S A s.heap H locs → lv_has ls 5 [(0, .ref (a 20)), (1, .int x1), (2, .int x2), (3, .int x3)] → W p l e (rm_M_resolve) s m args below meth c H locs 0 0 (MQ below (qc_M_resolve D A a k mh mm mt mo mr my mb r) args s 0 0 A) (F0 m 39 ls [])
def H_M_resolve_0 (p : Program) (l : Launch) (e : Env) (s : State) (m : MethodId) (args : Array Value) (below : List Frame) (meth : Method) (c : Code) (D : va_G) (A : Nat → Prop) (a : Nat → Nat) (k : Nat → ClassId) (mh : Int32) (mm : Nat → Int32) (mt : Nat → Int32) (mo : Nat → Int32) (mr : Nat → Int64) (my : Nat → Int32) (mb : Nat → Int64) (f : Int32 → Int32 → Int32 → Int32 → (Nat → Int32) → (Nat → Int32) → Int32 → (Nat → Int32) → Option (Int32 × Int32 × Int32 × (Nat → Int32) × (Nat → Int32) × Int32 × (Nat → Int32))) : Prop := ∀ (x1 : Int32) (x2 : Int32) (mn : Int32) (mc : Int32) (ms : Nat → Int32) (ml : Nat → Int32) (mk : Int32) (mf : Nat → Int32) (r : Int32 × Int32 × Int32 × (Nat → Int32) × (Nat → Int32) × Int32 × (Nat → Int32)), f x1 x2 mn mc ms ml mk mf = some r → ∀ (H : Heap) (locs : List Loc) (ls : Array Slot), va_P D classes (wM a k mh mn mc ms ml mm mt mo mk mr my mb mf) H → va_D A (wM a k mh mn mc ms ml mm mt mo mk mr my mb mf) → va_S A s.heap H locs → lv_has ls 5 [(0, .ref (a 20)), (1, .int x1), (2, .int x2)] → W p l e (rm_M_resolve) s m args below meth c H locs 0 0 (MQ below (qc_M_resolve D A a k mh mm mt mo mr my mb r) args s 0 0 A) (F0 m 0 ls [])
set_option maxHeartbeats 4000000 in
set_option maxRecDepth 100000 in
theorem k_M_resolve_237 {p : Program} {l : Launch} {e : Env} {s : State} {m : MethodId} {args : Array Value} {below : List Frame} {meth : Method} {c : Code} {D : va_G} {A : Nat → Prop} {a : Nat → Nat} {k : Nat → ClassId} {mh : Int32} {mm : Nat → Int32} {mt : Nat → Int32} {mo : Nat → Int32} {mr : Nat → Int64} {my : Nat → Int32} {mb : Nat → Int64} (C : cx D [(k 21, .int), (k 22, .int), (k 23, .int), (k 24, .boolean), (k 25, .boolean), (k 26, .long), (k 27, .int), (k 28, .long), (k 29, .int)] R_M b_M_resolve 5 (some .boolean) A p s m args meth c) : H_M_resolve_237 p l e s m args below meth c D A a k mh mm mt mo mr my mb (J_M_resolve_237) := by
  obtain ⟨hx, hb, hr, hml, hown, ht, hlk, hA, hK⟩ := id C
  intro y0 y1 mn mc ms ml mk mf r h H locs ls hP hD hS hl
  unfold J_M_resolve_237 at h
  refine lv_iadd hx hb d_M_resolve_237 ?_
  refine va_put (D := D) (ci := 3) (v := .int (y1 + y0)) (ty := .int) (C := R_M) (T := F_M) (N := 13) hx hb ht iC_M t_M t_M_ok n_M hown hK hP hD hS 0 rfl rfl 2 (by decide) (ht _ ix_171) (fun _ h9 => h9) rfl (by decide +kernel) rfl rfl (Nat.le_of_ble_eq_true rfl) d_M_resolve_238 (fun H locs hP hD hS => ?_)
  have hP : va_P D classes (wM a k mh mn (y1 + y0) ms ml mm mt mo mk mr my mb mf) H := hP
  have hD : va_D A (wM a k mh mn (y1 + y0) ms ml mm mt mo mk mr my mb mf) := hD
  refine lv_aload_n hx hb d_M_resolve_241 rfl (lv_at hl 0 rfl) ?_
  refine lv_iconst (v := 0) hx hb d_M_resolve_242 (by decide) ?_
  refine va_put (D := D) (ci := 3) (v := .int (0 : Int32)) (ty := .boolean) (C := R_M) (T := F_M) (N := 13) hx hb ht iC_M t_M t_M_ok n_M hown hK hP hD hS 0 rfl rfl 8 (by decide) (ht _ ix_190) (fun _ h9 => h9) rfl (by decide +kernel) rfl rfl (Nat.le_of_ble_eq_true rfl) d_M_resolve_243 (fun H locs hP hD hS => ?_)
  have hP : va_P D classes (wM a k mh mn (y1 + y0) ms ml mm mt mo (0 : Int32) mr my mb mf) H := hP
  have hD : va_D A (wM a k mh mn (y1 + y0) ms ml mm mt mo (0 : Int32) mr my mb mf) := hD
  refine lv_iconst (v := 1) hx hb d_M_resolve_246 (by decide) ?_
  cases h
  exact W.zret hx hb hr rfl (fun t ht hW => ⟨⟨_, (), rfl, rfl, by rw [ht]; exact hP, va_K.moved hW.alike hK, hD⟩, hS.F ht⟩) hS.2.2 d_M_resolve_247 hlk
set_option maxHeartbeats 4000000 in
set_option maxRecDepth 100000 in
theorem k_M_resolve_189 {p : Program} {l : Launch} {e : Env} {s : State} {m : MethodId} {args : Array Value} {below : List Frame} {meth : Method} {c : Code} {D : va_G} {A : Nat → Prop} {a : Nat → Nat} {k : Nat → ClassId} {mh : Int32} {mm : Nat → Int32} {mt : Nat → Int32} {mo : Nat → Int32} {mr : Nat → Int64} {my : Nat → Int32} {mb : Nat → Int64} (C : cx D [(k 21, .int), (k 22, .int), (k 23, .int), (k 24, .boolean), (k 25, .boolean), (k 26, .long), (k 27, .int), (k 28, .long), (k 29, .int)] R_M b_M_resolve 5 (some .boolean) A p s m args meth c) : H_M_resolve_189 p l e s m args below meth c D A a k mh mm mt mo mr my mb (J_M_resolve_189) := by
  obtain ⟨hx, hb, hr, hml, hown, ht, hlk, hA, hK⟩ := id C
  intro x2 y0 y1 mn mc ms ml mk mf r h H locs ls hP hD hS hl
  unfold J_M_resolve_189 at h
  refine lv_iadd hx hb d_M_resolve_189 ?_
  refine va_put (D := D) (ci := 3) (v := .int (y1 + y0)) (ty := .int) (C := R_M) (T := F_M) (N := 13) hx hb ht iC_M t_M t_M_ok n_M hown hK hP hD hS 0 rfl rfl 2 (by decide) (ht _ ix_171) (fun _ h9 => h9) rfl (by decide +kernel) rfl rfl (Nat.le_of_ble_eq_true rfl) d_M_resolve_190 (fun H locs hP hD hS => ?_)
  have hP : va_P D classes (wM a k mh mn (y1 + y0) ms ml mm mt mo mk mr my mb mf) H := hP
  have hD : va_D A (wM a k mh mn (y1 + y0) ms ml mm mt mo mk mr my mb mf) := hD
  refine lv_aload_n hx hb d_M_resolve_193 rfl (lv_at hl 0 rfl) ?_
  refine lv_dup hx hb d_M_resolve_194 rfl ?_
  refine va_get (D := D) (ci := 3) (v := .int (y1 + y0)) (C := R_M) (T := F_M) (N := 13) hx hb ht iC_M hown hK hP 0 rfl rfl 2 (by decide) (ht _ ix_171) (fun _ h9 => h9) rfl d_M_resolve_195 ?_
  refine lv_iload_n hx hb d_M_resolve_198 rfl (lv_at hl 1 rfl) ?_
  refine lv_if_eq (tgt := 221) hx hb d_M_resolve_199 (by decide) (fun c_1 => ?_) (fun c_1 => ?_)
  · have h := ite_T c_1 h
    refine lv_aload_n hx hb d_M_resolve_221 rfl (lv_at hl 0 rfl) ?_
    refine lv_aload_n hx hb d_M_resolve_222 rfl (lv_at hl 0 rfl) ?_
    refine va_get (D := D) (ci := 3) (v := .ref (a 29)) (C := R_M) (T := F_M) (N := 13) hx hb ht iC_M hown hK hP 0 rfl rfl 12 (by decide) (ht _ ix_225) (fun _ h9 => h9) rfl d_M_resolve_223 ?_
    refine lv_iconst (v := 3) hx hb d_M_resolve_226 (by decide) ?_
    obtain ⟨g_2, h⟩ := gd_some h
    refine va_iald hx hb hK hP 9 8 rfl rfl (inb_in g_2) d_M_resolve_227 ?_
    refine lv_aload_n hx hb d_M_resolve_228 rfl (lv_at hl 0 rfl) ?_
    refine va_get (D := D) (ci := 3) (v := .ref (a 29)) (C := R_M) (T := F_M) (N := 13) hx hb ht iC_M hown hK hP 0 rfl rfl 12 (by decide) (ht _ ix_225) (fun _ h9 => h9) rfl d_M_resolve_229 ?_
    refine lv_iconst (v := 0) hx hb d_M_resolve_232 (by decide) ?_
    obtain ⟨g_3, h⟩ := gd_some h
    refine va_iald hx hb hK hP 9 8 rfl rfl (inb_in g_3) d_M_resolve_233 ?_
    obtain ⟨v_4, e_4, h⟩ := bd_some h
    refine go_Vi (r := v_4.1) (As := [.int (mf (3 : Int32).toNatClampNeg), .int (mf (0 : Int32).toNatClampNeg)]) (rest := [.int (y1 + y0), .ref (a 20)]) (wc := (wM a k mh mn (y1 + y0) ms ml mm mt mo mk mr my mb mf)) (wr := []) (w1 := (wM a k mh mn (y1 + y0) ms v_4.2.1 mm mt mo mk mr my mb v_4.2.2)) (w2 := (wM a k mh mn (y1 + y0) ms v_4.2.1 mm mt mo mk mr my mb v_4.2.2)) (tc := [(k 21, .int), (k 22, .int), (k 23, .int), (k 24, .boolean), (k 25, .boolean), (k 26, .long), (k 27, .int), (k 28, .long), (k 29, .int)]) hx hb hml hown ht (c_M_join l D a k H.size (mf (3 : Int32).toNatClampNeg) (mf (0 : Int32).toNatClampNeg) mh mn (y1 + y0) ms ml mm mt mo mk mr my mb mf v_4 e_4) g_M_105 ⟨rfl, rfl⟩ (n := 2) (by decide +kernel) ⟨(Nat.le_of_ble_eq_true rfl), (Nat.le_of_ble_eq_true rfl)⟩ hP hD hK hS hA ⟨Nat.zero_le _, Nat.zero_le _⟩ [0, 1, 2, 3, 4, 5, 6, 7, 8, 9] [] [0, 1, 2, 3, 4, 5, 6, 7, 8] [0, 1, 2, 3, 4, 5, 6, 7, 8, 9] rfl rfl rfl rfl (by decide) (by decide) (by decide) rfl (by decide) 0 rfl rfl rfl rfl rfl hl.1 (Nat.le_of_ble_eq_true rfl) d_M_resolve_234 (fun H locs hP hD hS => ?_)
    exact (k_M_resolve_237 C) _ _ _ _ _ _ _ _ _ h _ _ _ hP hD hS (lv_sub hl [0] rfl)
  · have h := ite_F c_1 h
    refine lv_aload_n hx hb d_M_resolve_202 rfl (lv_at hl 0 rfl) ?_
    refine lv_aload_n hx hb d_M_resolve_203 rfl (lv_at hl 0 rfl) ?_
    refine va_get (D := D) (ci := 3) (v := .ref (a 29)) (C := R_M) (T := F_M) (N := 13) hx hb ht iC_M hown hK hP 0 rfl rfl 12 (by decide) (ht _ ix_225) (fun _ h9 => h9) rfl d_M_resolve_204 ?_
    refine lv_iconst (v := 2) hx hb d_M_resolve_207 (by decide) ?_
    obtain ⟨g_5, h⟩ := gd_some h
    refine va_iald hx hb hK hP 9 8 rfl rfl (inb_in g_5) d_M_resolve_208 ?_
    refine lv_aload_n hx hb d_M_resolve_209 rfl (lv_at hl 0 rfl) ?_
    refine va_get (D := D) (ci := 3) (v := .ref (a 29)) (C := R_M) (T := F_M) (N := 13) hx hb ht iC_M hown hK hP 0 rfl rfl 12 (by decide) (ht _ ix_225) (fun _ h9 => h9) rfl d_M_resolve_210 ?_
    refine lv_iconst (v := 3) hx hb d_M_resolve_213 (by decide) ?_
    obtain ⟨g_6, h⟩ := gd_some h
    refine va_iald hx hb hK hP 9 8 rfl rfl (inb_in g_6) d_M_resolve_214 ?_
    obtain ⟨v_7, e_7, h⟩ := bd_some h
    refine go_Vi (r := v_7.1) (As := [.int (mf (2 : Int32).toNatClampNeg), .int (mf (3 : Int32).toNatClampNeg)]) (rest := [.int (y1 + y0), .ref (a 20)]) (wc := (wM a k mh mn (y1 + y0) ms ml mm mt mo mk mr my mb mf)) (wr := []) (w1 := (wM a k mh mn (y1 + y0) ms v_7.2.1 mm mt mo mk mr my mb v_7.2.2)) (w2 := (wM a k mh mn (y1 + y0) ms v_7.2.1 mm mt mo mk mr my mb v_7.2.2)) (tc := [(k 21, .int), (k 22, .int), (k 23, .int), (k 24, .boolean), (k 25, .boolean), (k 26, .long), (k 27, .int), (k 28, .long), (k 29, .int)]) hx hb hml hown ht (c_M_join l D a k H.size (mf (2 : Int32).toNatClampNeg) (mf (3 : Int32).toNatClampNeg) mh mn (y1 + y0) ms ml mm mt mo mk mr my mb mf v_7 e_7) g_M_105 ⟨rfl, rfl⟩ (n := 2) (by decide +kernel) ⟨(Nat.le_of_ble_eq_true rfl), (Nat.le_of_ble_eq_true rfl)⟩ hP hD hK hS hA ⟨Nat.zero_le _, Nat.zero_le _⟩ [0, 1, 2, 3, 4, 5, 6, 7, 8, 9] [] [0, 1, 2, 3, 4, 5, 6, 7, 8] [0, 1, 2, 3, 4, 5, 6, 7, 8, 9] rfl rfl rfl rfl (by decide) (by decide) (by decide) rfl (by decide) 0 rfl rfl rfl rfl rfl hl.1 (Nat.le_of_ble_eq_true rfl) d_M_resolve_215 (fun H locs hP hD hS => ?_)
    refine lv_goto (tgt := 237) hx hb d_M_resolve_218 (by decide) ?_
    exact (k_M_resolve_237 C) _ _ _ _ _ _ _ _ _ h _ _ _ hP hD hS (lv_sub hl [0] rfl)
set_option maxHeartbeats 4000000 in
set_option maxRecDepth 100000 in
theorem k_M_resolve_103 {p : Program} {l : Launch} {e : Env} {s : State} {m : MethodId} {args : Array Value} {below : List Frame} {meth : Method} {c : Code} {D : va_G} {A : Nat → Prop} {a : Nat → Nat} {k : Nat → ClassId} {mh : Int32} {mm : Nat → Int32} {mt : Nat → Int32} {mo : Nat → Int32} {mr : Nat → Int64} {my : Nat → Int32} {mb : Nat → Int64} {rec78 : Int32 → Int32 → Int32 → Int32 → (Nat → Int32) → (Nat → Int32) → Int32 → (Nat → Int32) → Option (Int32 × Int32 × Int32 × (Nat → Int32) × (Nat → Int32) × Int32 × (Nat → Int32))} {rec103 : Int32 → Int32 → Int32 → Int32 → Int32 → (Nat → Int32) → (Nat → Int32) → Int32 → (Nat → Int32) → Option (Int32 × Int32 × Int32 × (Nat → Int32) × (Nat → Int32) × Int32 × (Nat → Int32))} (C : cx D [(k 21, .int), (k 22, .int), (k 23, .int), (k 24, .boolean), (k 25, .boolean), (k 26, .long), (k 27, .int), (k 28, .long), (k 29, .int)] R_M b_M_resolve 5 (some .boolean) A p s m args meth c) (hrec78 : H_M_resolve_78 p l e s m args below meth c D A a k mh mm mt mo mr my mb rec78) (hrec103 : H_M_resolve_103 p l e s m args below meth c D A a k mh mm mt mo mr my mb rec103) : H_M_resolve_103 p l e s m args below meth c D A a k mh mm mt mo mr my mb (J_M_resolve_103 rec78 rec103) := by
  obtain ⟨hx, hb, hr, hml, hown, ht, hlk, hA, hK⟩ := id C
  intro x2 x3 x4 mn mc ms ml mk mf r h H locs ls hP hD hS hl
  unfold J_M_resolve_103 at h
  refine lv_iload hx hb d_M_resolve_103 (lv_at hl 3 rfl) ?_
  refine lv_iconst (v := 4) hx hb d_M_resolve_105 (by decide) ?_
  refine lv_icmp_ge (tgt := 139) hx hb d_M_resolve_106 (by decide) (fun c_1 => ?_) (fun c_1 => ?_)
  · have h := ite_T c_1 h
    refine lv_iinc (v := x3 + 1) (lv' := [(3, .int (x3 + 1)), (0, .ref (a 20)), (2, .int x2), (4, .int x4)]) hx hb d_M_resolve_139 hl (k := 2) rfl rfl (by decide) rfl (fun ls hl => ?_)
    refine lv_goto (tgt := 78) hx hb d_M_resolve_142 (by decide) ?_
    exact hrec78 _ _ _ _ _ _ _ _ _ h _ _ _ hP hD hS (lv_sub hl [1, 2, 0] rfl)
  · have h := ite_F c_1 h
    refine lv_aload_n hx hb d_M_resolve_109 rfl (lv_at hl 0 rfl) ?_
    refine va_get (D := D) (ci := 3) (v := .ref (a 22)) (C := R_M) (T := F_M) (N := 13) hx hb ht iC_M hown hK hP 0 rfl rfl 4 (by decide) (ht _ ix_164) (fun _ h9 => h9) rfl d_M_resolve_110 ?_
    refine lv_iconst (v := 4) hx hb d_M_resolve_113 (by decide) ?_
    refine lv_iload_n hx hb d_M_resolve_114 rfl (lv_at hl 2 rfl) ?_
    refine lv_imul hx hb d_M_resolve_115 ?_
    refine lv_iload hx hb d_M_resolve_116 (lv_at hl 3 rfl) ?_
    refine lv_iadd hx hb d_M_resolve_118 ?_
    refine lv_aload_n hx hb d_M_resolve_119 rfl (lv_at hl 0 rfl) ?_
    refine va_get (D := D) (ci := 3) (v := .ref (a 22)) (C := R_M) (T := F_M) (N := 13) hx hb ht iC_M hown hK hP 0 rfl rfl 4 (by decide) (ht _ ix_164) (fun _ h9 => h9) rfl d_M_resolve_120 ?_
    refine lv_iconst (v := 4) hx hb d_M_resolve_123 (by decide) ?_
    refine lv_iload_n hx hb d_M_resolve_124 rfl (lv_at hl 2 rfl) ?_
    refine lv_imul hx hb d_M_resolve_125 ?_
    refine lv_iconst (v := 4) hx hb d_M_resolve_126 (by decide) ?_
    refine lv_iadd hx hb d_M_resolve_127 ?_
    refine lv_iload hx hb d_M_resolve_128 (lv_at hl 3 rfl) ?_
    refine lv_iadd hx hb d_M_resolve_130 ?_
    obtain ⟨g_2, h⟩ := gd_some h
    refine va_iald hx hb hK hP 2 1 rfl rfl (inb_in g_2) d_M_resolve_131 ?_
    obtain ⟨g_3, h⟩ := gd_some h
    refine va_iast hx hb hK hP hD hS 2 1 rfl rfl (inb_in g_3) d_M_resolve_132 (fun H locs hP hD hS => ?_)
    have hP : va_P D classes (wM a k mh mn mc ms (upd ml (((4 : Int32) * x3) + x4).toNatClampNeg (ml ((((4 : Int32) * x3) + (4 : Int32)) + x4).toNatClampNeg)) mm mt mo mk mr my mb mf) H := hP
    have hD : va_D A (wM a k mh mn mc ms (upd ml (((4 : Int32) * x3) + x4).toNatClampNeg (ml ((((4 : Int32) * x3) + (4 : Int32)) + x4).toNatClampNeg)) mm mt mo mk mr my mb mf) := hD
    refine lv_iinc (v := x4 + 1) (lv' := [(4, .int (x4 + 1)), (0, .ref (a 20)), (2, .int x2), (3, .int x3)]) hx hb d_M_resolve_133 hl (k := 3) rfl rfl (by decide) rfl (fun ls hl => ?_)
    refine lv_goto (tgt := 103) hx hb d_M_resolve_136 (by decide) ?_
    exact hrec103 _ _ _ _ _ _ _ _ _ _ h _ _ _ hP hD hS (lv_sub hl [1, 2, 3, 0] rfl)
theorem k_M_resolve_103_L {p : Program} {l : Launch} {e : Env} {s : State} {m : MethodId} {args : Array Value} {below : List Frame} {meth : Method} {c : Code} {D : va_G} {A : Nat → Prop} {a : Nat → Nat} {k : Nat → ClassId} {mh : Int32} {mm : Nat → Int32} {mt : Nat → Int32} {mo : Nat → Int32} {mr : Nat → Int64} {my : Nat → Int32} {mb : Nat → Int64} {rec78 : Int32 → Int32 → Int32 → Int32 → (Nat → Int32) → (Nat → Int32) → Int32 → (Nat → Int32) → Option (Int32 × Int32 × Int32 × (Nat → Int32) × (Nat → Int32) × Int32 × (Nat → Int32))} (C : cx D [(k 21, .int), (k 22, .int), (k 23, .int), (k 24, .boolean), (k 25, .boolean), (k 26, .long), (k 27, .int), (k 28, .long), (k 29, .int)] R_M b_M_resolve 5 (some .boolean) A p s m args meth c) (hrec78 : H_M_resolve_78 p l e s m args below meth c D A a k mh mm mt mo mr my mb rec78) : ∀ n : Nat, H_M_resolve_103 p l e s m args below meth c D A a k mh mm mt mo mr my mb (L_M_resolve_103 rec78 n)
  | 0 => fun _ _ _ _ _ _ _ _ _ _ h => nomatch h
  | n + 1 => k_M_resolve_103 C hrec78 (k_M_resolve_103_L C hrec78 n)
set_option maxHeartbeats 4000000 in
set_option maxRecDepth 100000 in
theorem k_M_resolve_78 {p : Program} {l : Launch} {e : Env} {s : State} {m : MethodId} {args : Array Value} {below : List Frame} {meth : Method} {c : Code} {D : va_G} {A : Nat → Prop} {a : Nat → Nat} {k : Nat → ClassId} {mh : Int32} {mm : Nat → Int32} {mt : Nat → Int32} {mo : Nat → Int32} {mr : Nat → Int64} {my : Nat → Int32} {mb : Nat → Int64} {rec78 : Int32 → Int32 → Int32 → Int32 → (Nat → Int32) → (Nat → Int32) → Int32 → (Nat → Int32) → Option (Int32 × Int32 × Int32 × (Nat → Int32) × (Nat → Int32) × Int32 × (Nat → Int32))} (C : cx D [(k 21, .int), (k 22, .int), (k 23, .int), (k 24, .boolean), (k 25, .boolean), (k 26, .long), (k 27, .int), (k 28, .long), (k 29, .int)] R_M b_M_resolve 5 (some .boolean) A p s m args meth c) (hrec78 : H_M_resolve_78 p l e s m args below meth c D A a k mh mm mt mo mr my mb rec78) : H_M_resolve_78 p l e s m args below meth c D A a k mh mm mt mo mr my mb (J_M_resolve_78 rec78) := by
  obtain ⟨hx, hb, hr, hml, hown, ht, hlk, hA, hK⟩ := id C
  intro x2 x3 mn mc ms ml mk mf r h H locs ls hP hD hS hl
  unfold J_M_resolve_78 at h
  refine lv_iload_n hx hb d_M_resolve_78 rfl (lv_at hl 2 rfl) ?_
  refine lv_aload_n hx hb d_M_resolve_79 rfl (lv_at hl 0 rfl) ?_
  refine va_get (D := D) (ci := 3) (v := .int mn) (C := R_M) (T := F_M) (N := 13) hx hb ht iC_M hown hK hP 0 rfl rfl 1 (by decide) (ht _ ix_163) (fun _ h9 => h9) rfl d_M_resolve_80 ?_
  refine lv_icmp_ge (tgt := 145) hx hb d_M_resolve_83 (by decide) (fun c_1 => ?_) (fun c_1 => ?_)
  · have h := ite_T c_1 h
    refine lv_aload_n hx hb d_M_resolve_145 rfl (lv_at hl 0 rfl) ?_
    refine lv_dup hx hb d_M_resolve_146 rfl ?_
    refine va_get (D := D) (ci := 3) (v := .int mc) (C := R_M) (T := F_M) (N := 13) hx hb ht iC_M hown hK hP 0 rfl rfl 2 (by decide) (ht _ ix_171) (fun _ h9 => h9) rfl d_M_resolve_147 ?_
    refine lv_iload_n hx hb d_M_resolve_150 rfl (lv_at hl 1 rfl) ?_
    refine lv_if_eq (tgt := 173) hx hb d_M_resolve_151 (by decide) (fun c_2 => ?_) (fun c_2 => ?_)
    · have h := ite_T c_2 h
      refine lv_aload_n hx hb d_M_resolve_173 rfl (lv_at hl 0 rfl) ?_
      refine lv_aload_n hx hb d_M_resolve_174 rfl (lv_at hl 0 rfl) ?_
      refine va_get (D := D) (ci := 3) (v := .ref (a 29)) (C := R_M) (T := F_M) (N := 13) hx hb ht iC_M hown hK hP 0 rfl rfl 12 (by decide) (ht _ ix_225) (fun _ h9 => h9) rfl d_M_resolve_175 ?_
      refine lv_iconst (v := 1) hx hb d_M_resolve_178 (by decide) ?_
      obtain ⟨g_3, h⟩ := gd_some h
      refine va_iald hx hb hK hP 9 8 rfl rfl (inb_in g_3) d_M_resolve_179 ?_
      refine lv_aload_n hx hb d_M_resolve_180 rfl (lv_at hl 0 rfl) ?_
      refine va_get (D := D) (ci := 3) (v := .ref (a 29)) (C := R_M) (T := F_M) (N := 13) hx hb ht iC_M hown hK hP 0 rfl rfl 12 (by decide) (ht _ ix_225) (fun _ h9 => h9) rfl d_M_resolve_181 ?_
      refine lv_iconst (v := 2) hx hb d_M_resolve_184 (by decide) ?_
      obtain ⟨g_4, h⟩ := gd_some h
      refine va_iald hx hb hK hP 9 8 rfl rfl (inb_in g_4) d_M_resolve_185 ?_
      obtain ⟨v_5, e_5, h⟩ := bd_some h
      refine go_Vi (r := v_5.1) (As := [.int (mf (1 : Int32).toNatClampNeg), .int (mf (2 : Int32).toNatClampNeg)]) (rest := [.int mc, .ref (a 20)]) (wc := (wM a k mh mn mc ms ml mm mt mo mk mr my mb mf)) (wr := []) (w1 := (wM a k mh mn mc ms v_5.2.1 mm mt mo mk mr my mb v_5.2.2)) (w2 := (wM a k mh mn mc ms v_5.2.1 mm mt mo mk mr my mb v_5.2.2)) (tc := [(k 21, .int), (k 22, .int), (k 23, .int), (k 24, .boolean), (k 25, .boolean), (k 26, .long), (k 27, .int), (k 28, .long), (k 29, .int)]) hx hb hml hown ht (c_M_join l D a k H.size (mf (1 : Int32).toNatClampNeg) (mf (2 : Int32).toNatClampNeg) mh mn mc ms ml mm mt mo mk mr my mb mf v_5 e_5) g_M_105 ⟨rfl, rfl⟩ (n := 2) (by decide +kernel) ⟨(Nat.le_of_ble_eq_true rfl), (Nat.le_of_ble_eq_true rfl)⟩ hP hD hK hS hA ⟨Nat.zero_le _, Nat.zero_le _⟩ [0, 1, 2, 3, 4, 5, 6, 7, 8, 9] [] [0, 1, 2, 3, 4, 5, 6, 7, 8] [0, 1, 2, 3, 4, 5, 6, 7, 8, 9] rfl rfl rfl rfl (by decide) (by decide) (by decide) rfl (by decide) 0 rfl rfl rfl rfl rfl hl.1 (Nat.le_of_ble_eq_true rfl) d_M_resolve_186 (fun H locs hP hD hS => ?_)
      exact (k_M_resolve_189 C) _ _ _ _ _ _ _ _ _ _ h _ _ _ hP hD hS (lv_sub hl [0, 1] rfl)
    · have h := ite_F c_2 h
      refine lv_aload_n hx hb d_M_resolve_154 rfl (lv_at hl 0 rfl) ?_
      refine lv_aload_n hx hb d_M_resolve_155 rfl (lv_at hl 0 rfl) ?_
      refine va_get (D := D) (ci := 3) (v := .ref (a 29)) (C := R_M) (T := F_M) (N := 13) hx hb ht iC_M hown hK hP 0 rfl rfl 12 (by decide) (ht _ ix_225) (fun _ h9 => h9) rfl d_M_resolve_156 ?_
      refine lv_iconst (v := 0) hx hb d_M_resolve_159 (by decide) ?_
      obtain ⟨g_6, h⟩ := gd_some h
      refine va_iald hx hb hK hP 9 8 rfl rfl (inb_in g_6) d_M_resolve_160 ?_
      refine lv_aload_n hx hb d_M_resolve_161 rfl (lv_at hl 0 rfl) ?_
      refine va_get (D := D) (ci := 3) (v := .ref (a 29)) (C := R_M) (T := F_M) (N := 13) hx hb ht iC_M hown hK hP 0 rfl rfl 12 (by decide) (ht _ ix_225) (fun _ h9 => h9) rfl d_M_resolve_162 ?_
      refine lv_iconst (v := 1) hx hb d_M_resolve_165 (by decide) ?_
      obtain ⟨g_7, h⟩ := gd_some h
      refine va_iald hx hb hK hP 9 8 rfl rfl (inb_in g_7) d_M_resolve_166 ?_
      obtain ⟨v_8, e_8, h⟩ := bd_some h
      refine go_Vi (r := v_8.1) (As := [.int (mf (0 : Int32).toNatClampNeg), .int (mf (1 : Int32).toNatClampNeg)]) (rest := [.int mc, .ref (a 20)]) (wc := (wM a k mh mn mc ms ml mm mt mo mk mr my mb mf)) (wr := []) (w1 := (wM a k mh mn mc ms v_8.2.1 mm mt mo mk mr my mb v_8.2.2)) (w2 := (wM a k mh mn mc ms v_8.2.1 mm mt mo mk mr my mb v_8.2.2)) (tc := [(k 21, .int), (k 22, .int), (k 23, .int), (k 24, .boolean), (k 25, .boolean), (k 26, .long), (k 27, .int), (k 28, .long), (k 29, .int)]) hx hb hml hown ht (c_M_join l D a k H.size (mf (0 : Int32).toNatClampNeg) (mf (1 : Int32).toNatClampNeg) mh mn mc ms ml mm mt mo mk mr my mb mf v_8 e_8) g_M_105 ⟨rfl, rfl⟩ (n := 2) (by decide +kernel) ⟨(Nat.le_of_ble_eq_true rfl), (Nat.le_of_ble_eq_true rfl)⟩ hP hD hK hS hA ⟨Nat.zero_le _, Nat.zero_le _⟩ [0, 1, 2, 3, 4, 5, 6, 7, 8, 9] [] [0, 1, 2, 3, 4, 5, 6, 7, 8] [0, 1, 2, 3, 4, 5, 6, 7, 8, 9] rfl rfl rfl rfl (by decide) (by decide) (by decide) rfl (by decide) 0 rfl rfl rfl rfl rfl hl.1 (Nat.le_of_ble_eq_true rfl) d_M_resolve_167 (fun H locs hP hD hS => ?_)
      refine lv_goto (tgt := 189) hx hb d_M_resolve_170 (by decide) ?_
      exact (k_M_resolve_189 C) _ _ _ _ _ _ _ _ _ _ h _ _ _ hP hD hS (lv_sub hl [0, 1] rfl)
  · have h := ite_F c_1 h
    refine lv_aload_n hx hb d_M_resolve_86 rfl (lv_at hl 0 rfl) ?_
    refine va_get (D := D) (ci := 3) (v := .ref (a 21)) (C := R_M) (T := F_M) (N := 13) hx hb ht iC_M hown hK hP 0 rfl rfl 3 (by decide) (ht _ ix_199) (fun _ h9 => h9) rfl d_M_resolve_87 ?_
    refine lv_iload_n hx hb d_M_resolve_90 rfl (lv_at hl 2 rfl) ?_
    refine lv_aload_n hx hb d_M_resolve_91 rfl (lv_at hl 0 rfl) ?_
    refine va_get (D := D) (ci := 3) (v := .ref (a 21)) (C := R_M) (T := F_M) (N := 13) hx hb ht iC_M hown hK hP 0 rfl rfl 3 (by decide) (ht _ ix_199) (fun _ h9 => h9) rfl d_M_resolve_92 ?_
    refine lv_iload_n hx hb d_M_resolve_95 rfl (lv_at hl 2 rfl) ?_
    refine lv_iconst (v := 1) hx hb d_M_resolve_96 (by decide) ?_
    refine lv_iadd hx hb d_M_resolve_97 ?_
    obtain ⟨g_9, h⟩ := gd_some h
    refine va_iald hx hb hK hP 1 0 rfl rfl (inb_in g_9) d_M_resolve_98 ?_
    obtain ⟨g_10, h⟩ := gd_some h
    refine va_iast hx hb hK hP hD hS 1 0 rfl rfl (inb_in g_10) d_M_resolve_99 (fun H locs hP hD hS => ?_)
    have hP : va_P D classes (wM a k mh mn mc (upd ms x3.toNatClampNeg (ms (x3 + (1 : Int32)).toNatClampNeg)) ml mm mt mo mk mr my mb mf) H := hP
    have hD : va_D A (wM a k mh mn mc (upd ms x3.toNatClampNeg (ms (x3 + (1 : Int32)).toNatClampNeg)) ml mm mt mo mk mr my mb mf) := hD
    refine lv_iconst (v := 0) hx hb d_M_resolve_100 (by decide) ?_
    refine lv_istore (lv' := [(4, .int (0 : Int32)), (0, .ref (a 20)), (2, .int x2), (3, .int x3)]) hx hb d_M_resolve_101 hl (by decide) rfl (fun ls hl => ?_)
    exact (k_M_resolve_103_L C hrec78 fu) _ _ _ _ _ _ _ _ _ _ h _ _ _ hP hD hS (lv_sub hl [1, 2, 3, 0] rfl)
theorem k_M_resolve_78_L {p : Program} {l : Launch} {e : Env} {s : State} {m : MethodId} {args : Array Value} {below : List Frame} {meth : Method} {c : Code} {D : va_G} {A : Nat → Prop} {a : Nat → Nat} {k : Nat → ClassId} {mh : Int32} {mm : Nat → Int32} {mt : Nat → Int32} {mo : Nat → Int32} {mr : Nat → Int64} {my : Nat → Int32} {mb : Nat → Int64} (C : cx D [(k 21, .int), (k 22, .int), (k 23, .int), (k 24, .boolean), (k 25, .boolean), (k 26, .long), (k 27, .int), (k 28, .long), (k 29, .int)] R_M b_M_resolve 5 (some .boolean) A p s m args meth c) : ∀ n : Nat, H_M_resolve_78 p l e s m args below meth c D A a k mh mm mt mo mr my mb (L_M_resolve_78 n)
  | 0 => fun _ _ _ _ _ _ _ _ _ h => nomatch h
  | n + 1 => k_M_resolve_78 C (k_M_resolve_78_L C n)
set_option maxHeartbeats 4000000 in
set_option maxRecDepth 100000 in
theorem k_M_resolve_39 {p : Program} {l : Launch} {e : Env} {s : State} {m : MethodId} {args : Array Value} {below : List Frame} {meth : Method} {c : Code} {D : va_G} {A : Nat → Prop} {a : Nat → Nat} {k : Nat → ClassId} {mh : Int32} {mm : Nat → Int32} {mt : Nat → Int32} {mo : Nat → Int32} {mr : Nat → Int64} {my : Nat → Int32} {mb : Nat → Int64} {rec39 : Int32 → Int32 → Int32 → Int32 → Int32 → (Nat → Int32) → (Nat → Int32) → Int32 → (Nat → Int32) → Option (Int32 × Int32 × Int32 × (Nat → Int32) × (Nat → Int32) × Int32 × (Nat → Int32))} (C : cx D [(k 21, .int), (k 22, .int), (k 23, .int), (k 24, .boolean), (k 25, .boolean), (k 26, .long), (k 27, .int), (k 28, .long), (k 29, .int)] R_M b_M_resolve 5 (some .boolean) A p s m args meth c) (hrec39 : H_M_resolve_39 p l e s m args below meth c D A a k mh mm mt mo mr my mb rec39) : H_M_resolve_39 p l e s m args below meth c D A a k mh mm mt mo mr my mb (J_M_resolve_39 rec39) := by
  obtain ⟨hx, hb, hr, hml, hown, ht, hlk, hA, hK⟩ := id C
  intro x1 x2 x3 mn mc ms ml mk mf r h H locs ls hP hD hS hl
  unfold J_M_resolve_39 at h
  refine lv_iload_n hx hb d_M_resolve_39 rfl (lv_at hl 3 rfl) ?_
  refine lv_iconst (v := 4) hx hb d_M_resolve_40 (by decide) ?_
  refine lv_icmp_ge (tgt := 66) hx hb d_M_resolve_41 (by decide) (fun c_1 => ?_) (fun c_1 => ?_)
  · have h := ite_T c_1 h
    refine lv_aload_n hx hb d_M_resolve_66 rfl (lv_at hl 0 rfl) ?_
    refine lv_dup hx hb d_M_resolve_67 rfl ?_
    refine va_get (D := D) (ci := 3) (v := .int mn) (C := R_M) (T := F_M) (N := 13) hx hb ht iC_M hown hK hP 0 rfl rfl 1 (by decide) (ht _ ix_163) (fun _ h9 => h9) rfl d_M_resolve_68 ?_
    refine lv_iconst (v := 1) hx hb d_M_resolve_71 (by decide) ?_
    refine lv_isub hx hb d_M_resolve_72 ?_
    refine va_put (D := D) (ci := 3) (v := .int (mn - (1 : Int32))) (ty := .int) (C := R_M) (T := F_M) (N := 13) hx hb ht iC_M t_M t_M_ok n_M hown hK hP hD hS 0 rfl rfl 1 (by decide) (ht _ ix_163) (fun _ h9 => h9) rfl (by decide +kernel) rfl rfl (Nat.le_of_ble_eq_true rfl) d_M_resolve_73 (fun H locs hP hD hS => ?_)
    have hP : va_P D classes (wM a k mh (mn - (1 : Int32)) mc ms ml mm mt mo mk mr my mb mf) H := hP
    have hD : va_D A (wM a k mh (mn - (1 : Int32)) mc ms ml mm mt mo mk mr my mb mf) := hD
    refine lv_iload_n hx hb d_M_resolve_76 rfl (lv_at hl 1 rfl) ?_
    refine lv_istore_n (lv' := [(3, .int x1), (0, .ref (a 20)), (1, .int x1), (2, .int x2)]) hx hb d_M_resolve_77 rfl hl (by decide) rfl (fun ls hl => ?_)
    exact (k_M_resolve_78_L C fu) _ _ _ _ _ _ _ _ _ h _ _ _ hP hD hS (lv_sub hl [1, 3, 0] rfl)
  · have h := ite_F c_1 h
    refine lv_aload_n hx hb d_M_resolve_44 rfl (lv_at hl 0 rfl) ?_
    refine va_get (D := D) (ci := 3) (v := .ref (a 29)) (C := R_M) (T := F_M) (N := 13) hx hb ht iC_M hown hK hP 0 rfl rfl 12 (by decide) (ht _ ix_225) (fun _ h9 => h9) rfl d_M_resolve_45 ?_
    refine lv_iload_n hx hb d_M_resolve_48 rfl (lv_at hl 3 rfl) ?_
    refine lv_aload_n hx hb d_M_resolve_49 rfl (lv_at hl 0 rfl) ?_
    refine va_get (D := D) (ci := 3) (v := .ref (a 22)) (C := R_M) (T := F_M) (N := 13) hx hb ht iC_M hown hK hP 0 rfl rfl 4 (by decide) (ht _ ix_164) (fun _ h9 => h9) rfl d_M_resolve_50 ?_
    refine lv_iconst (v := 4) hx hb d_M_resolve_53 (by decide) ?_
    refine lv_iload_n hx hb d_M_resolve_54 rfl (lv_at hl 1 rfl) ?_
    refine lv_imul hx hb d_M_resolve_55 ?_
    refine lv_iload_n hx hb d_M_resolve_56 rfl (lv_at hl 3 rfl) ?_
    refine lv_iadd hx hb d_M_resolve_57 ?_
    obtain ⟨g_2, h⟩ := gd_some h
    refine va_iald hx hb hK hP 2 1 rfl rfl (inb_in g_2) d_M_resolve_58 ?_
    obtain ⟨g_3, h⟩ := gd_some h
    refine va_iast hx hb hK hP hD hS 9 8 rfl rfl (inb_in g_3) d_M_resolve_59 (fun H locs hP hD hS => ?_)
    have hP : va_P D classes (wM a k mh mn mc ms ml mm mt mo mk mr my mb (upd mf x3.toNatClampNeg (ml (((4 : Int32) * x1) + x3).toNatClampNeg))) H := hP
    have hD : va_D A (wM a k mh mn mc ms ml mm mt mo mk mr my mb (upd mf x3.toNatClampNeg (ml (((4 : Int32) * x1) + x3).toNatClampNeg))) := hD
    refine lv_iinc (v := x3 + 1) (lv' := [(3, .int (x3 + 1)), (0, .ref (a 20)), (1, .int x1), (2, .int x2)]) hx hb d_M_resolve_60 hl (k := 3) rfl rfl (by decide) rfl (fun ls hl => ?_)
    refine lv_goto (tgt := 39) hx hb d_M_resolve_63 (by decide) ?_
    exact hrec39 _ _ _ _ _ _ _ _ _ _ h _ _ _ hP hD hS (lv_sub hl [1, 2, 3, 0] rfl)
theorem k_M_resolve_39_L {p : Program} {l : Launch} {e : Env} {s : State} {m : MethodId} {args : Array Value} {below : List Frame} {meth : Method} {c : Code} {D : va_G} {A : Nat → Prop} {a : Nat → Nat} {k : Nat → ClassId} {mh : Int32} {mm : Nat → Int32} {mt : Nat → Int32} {mo : Nat → Int32} {mr : Nat → Int64} {my : Nat → Int32} {mb : Nat → Int64} (C : cx D [(k 21, .int), (k 22, .int), (k 23, .int), (k 24, .boolean), (k 25, .boolean), (k 26, .long), (k 27, .int), (k 28, .long), (k 29, .int)] R_M b_M_resolve 5 (some .boolean) A p s m args meth c) : ∀ n : Nat, H_M_resolve_39 p l e s m args below meth c D A a k mh mm mt mo mr my mb (L_M_resolve_39 n)
  | 0 => fun _ _ _ _ _ _ _ _ _ _ h => nomatch h
  | n + 1 => k_M_resolve_39 C (k_M_resolve_39_L C n)
set_option maxHeartbeats 4000000 in
set_option maxRecDepth 100000 in
theorem k_M_resolve_0 {p : Program} {l : Launch} {e : Env} {s : State} {m : MethodId} {args : Array Value} {below : List Frame} {meth : Method} {c : Code} {D : va_G} {A : Nat → Prop} {a : Nat → Nat} {k : Nat → ClassId} {mh : Int32} {mm : Nat → Int32} {mt : Nat → Int32} {mo : Nat → Int32} {mr : Nat → Int64} {my : Nat → Int32} {mb : Nat → Int64} (C : cx D [(k 21, .int), (k 22, .int), (k 23, .int), (k 24, .boolean), (k 25, .boolean), (k 26, .long), (k 27, .int), (k 28, .long), (k 29, .int)] R_M b_M_resolve 5 (some .boolean) A p s m args meth c) : H_M_resolve_0 p l e s m args below meth c D A a k mh mm mt mo mr my mb (J_M_resolve_0) := by
  obtain ⟨hx, hb, hr, hml, hown, ht, hlk, hA, hK⟩ := id C
  intro x1 x2 mn mc ms ml mk mf r h H locs ls hP hD hS hl
  unfold J_M_resolve_0 at h
  refine lv_iload_n hx hb d_M_resolve_0 rfl (lv_at hl 1 rfl) ?_
  refine lv_if_lt (tgt := 35) hx hb d_M_resolve_1 (by decide) (fun c_1 => ?_) (fun c_1 => ?_)
  · have h := ite_T c_1 h
    refine lv_iconst (v := 0) hx hb d_M_resolve_35 (by decide) ?_
    cases h
    exact W.zret hx hb hr rfl (fun t ht hW => ⟨⟨_, (), rfl, rfl, by rw [ht]; exact hP, va_K.moved hW.alike hK, hD⟩, hS.F ht⟩) hS.2.2 d_M_resolve_36 hlk
  · have h := ite_F c_1 h
    refine lv_iload_n hx hb d_M_resolve_4 rfl (lv_at hl 1 rfl) ?_
    refine lv_aload_n hx hb d_M_resolve_5 rfl (lv_at hl 0 rfl) ?_
    refine va_get (D := D) (ci := 3) (v := .int mn) (C := R_M) (T := F_M) (N := 13) hx hb ht iC_M hown hK hP 0 rfl rfl 1 (by decide) (ht _ ix_163) (fun _ h9 => h9) rfl d_M_resolve_6 ?_
    refine lv_icmp_ge (tgt := 35) hx hb d_M_resolve_9 (by decide) (fun c_2 => ?_) (fun c_2 => ?_)
    · have h := ite_T c_2 h
      refine lv_iconst (v := 0) hx hb d_M_resolve_35 (by decide) ?_
      cases h
      exact W.zret hx hb hr rfl (fun t ht hW => ⟨⟨_, (), rfl, rfl, by rw [ht]; exact hP, va_K.moved hW.alike hK, hD⟩, hS.F ht⟩) hS.2.2 d_M_resolve_36 hlk
    · have h := ite_F c_2 h
      refine lv_aload_n hx hb d_M_resolve_12 rfl (lv_at hl 0 rfl) ?_
      obtain ⟨v_3, e_3, h⟩ := bd_some h
      refine go_Vi (r := v_3) (As := []) (rest := []) (wc := (wM a k mh mn mc ms ml mm mt mo mk mr my mb mf)) (wr := []) (w1 := (wM a k mh mn mc ms ml mm mt mo mk mr my mb mf)) (w2 := (wM a k mh mn mc ms ml mm mt mo mk mr my mb mf)) (tc := [(k 21, .int), (k 22, .int), (k 23, .int), (k 24, .boolean), (k 25, .boolean), (k 26, .long), (k 27, .int), (k 28, .long), (k 29, .int)]) hx hb hml hown ht (c_M_fault l D a k H.size mh mn mc ms ml mm mt mo mk mr my mb mf v_3 e_3) g_M_61 ⟨rfl, rfl⟩ (n := 0) (by decide +kernel) ⟨(Nat.le_of_ble_eq_true rfl), (Nat.le_of_ble_eq_true rfl)⟩ hP hD hK hS hA ⟨Nat.zero_le _, Nat.zero_le _⟩ [0, 1, 2, 3, 4, 5, 6, 7, 8, 9] [] [0, 1, 2, 3, 4, 5, 6, 7, 8] [0, 1, 2, 3, 4, 5, 6, 7, 8, 9] rfl rfl rfl rfl (by decide) (by decide) (by decide) rfl (by decide) 0 rfl rfl rfl rfl rfl hl.1 (Nat.le_of_ble_eq_true rfl) d_M_resolve_13 (fun H locs hP hD hS => ?_)
      refine lv_if_gt (tgt := 35) hx hb d_M_resolve_16 (by decide) (fun c_4 => ?_) (fun c_4 => ?_)
      · have h := ite_T c_4 h
        refine lv_iconst (v := 0) hx hb d_M_resolve_35 (by decide) ?_
        cases h
        exact W.zret hx hb hr rfl (fun t ht hW => ⟨⟨_, (), rfl, rfl, by rw [ht]; exact hP, va_K.moved hW.alike hK, hD⟩, hS.F ht⟩) hS.2.2 d_M_resolve_36 hlk
      · have h := ite_F c_4 h
        refine lv_aload_n hx hb d_M_resolve_19 rfl (lv_at hl 0 rfl) ?_
        refine va_get (D := D) (ci := 3) (v := .int mc) (C := R_M) (T := F_M) (N := 13) hx hb ht iC_M hown hK hP 0 rfl rfl 2 (by decide) (ht _ ix_171) (fun _ h9 => h9) rfl d_M_resolve_20 ?_
        refine lv_aload_n hx hb d_M_resolve_23 rfl (lv_at hl 0 rfl) ?_
        refine lv_iload_n hx hb d_M_resolve_24 rfl (lv_at hl 1 rfl) ?_
        refine lv_iload_n hx hb d_M_resolve_25 rfl (lv_at hl 2 rfl) ?_
        obtain ⟨v_5, e_5, h⟩ := bd_some h
        refine go_Vi (r := v_5) (As := [.int x1, .int x2]) (rest := [.int mc]) (wc := (wM a k mh mn mc ms ml mm mt mo mk mr my mb mf)) (wr := []) (w1 := (wM a k mh mn mc ms ml mm mt mo mk mr my mb mf)) (w2 := (wM a k mh mn mc ms ml mm mt mo mk mr my mb mf)) (tc := [(k 21, .int), (k 22, .int), (k 23, .int), (k 24, .boolean), (k 25, .boolean), (k 26, .long), (k 27, .int), (k 28, .long), (k 29, .int)]) hx hb hml hown ht (c_M_closing l D a k H.size x1 x2 mh mn mc ms ml mm mt mo mk mr my mb mf v_5 e_5) g_M_102 ⟨rfl, rfl⟩ (n := 2) (by decide +kernel) ⟨(Nat.le_of_ble_eq_true rfl), (Nat.le_of_ble_eq_true rfl)⟩ hP hD hK hS hA ⟨Nat.zero_le _, Nat.zero_le _⟩ [0, 1, 2, 3, 4, 5, 6, 7, 8, 9] [] [0, 1, 2, 3, 4, 5, 6, 7, 8] [0, 1, 2, 3, 4, 5, 6, 7, 8, 9] rfl rfl rfl rfl (by decide) (by decide) (by decide) rfl (by decide) 0 rfl rfl rfl rfl rfl hl.1 (Nat.le_of_ble_eq_true rfl) d_M_resolve_26 (fun H locs hP hD hS => ?_)
        refine lv_iadd hx hb d_M_resolve_29 ?_
        refine lv_bipush (v := 9) hx hb d_M_resolve_30 (by decide) ?_
        refine lv_icmp_le (tgt := 37) hx hb d_M_resolve_32 (by decide) (fun c_6 => ?_) (fun c_6 => ?_)
        · have h := ite_T c_6 h
          refine lv_iconst (v := 0) hx hb d_M_resolve_37 (by decide) ?_
          refine lv_istore_n (lv' := [(3, .int (0 : Int32)), (0, .ref (a 20)), (1, .int x1), (2, .int x2)]) hx hb d_M_resolve_38 rfl hl (by decide) rfl (fun ls hl => ?_)
          exact (k_M_resolve_39_L C fu) _ _ _ _ _ _ _ _ _ _ h _ _ _ hP hD hS (lv_sub hl [1, 2, 3, 0] rfl)
        · have h := ite_F c_6 h
          refine lv_iconst (v := 0) hx hb d_M_resolve_35 (by decide) ?_
          cases h
          exact W.zret hx hb hr rfl (fun t ht hW => ⟨⟨_, (), rfl, rfl, by rw [ht]; exact hP, va_K.moved hW.alike hK, hD⟩, hS.F ht⟩) hS.2.2 d_M_resolve_36 hlk
set_option maxRecDepth 20000 in
theorem c_M_resolve (l : Launch) (D : va_G) (a : Nat → Nat) (k : Nat → ClassId) (sz : Nat) (x1 : Int32) (x2 : Int32) (mh : Int32) (mn : Int32) (mc : Int32) (ms : Nat → Int32) (ml : Nat → Int32) (mm : Nat → Int32) (mt : Nat → Int32) (mo : Nat → Int32) (mk : Int32) (mr : Nat → Int64) (my : Nat → Int32) (mb : Nat → Int64) (mf : Nat → Int32) (r : Int32 × Int32 × Int32 × (Nat → Int32) × (Nat → Int32) × Int32 × (Nat → Int32)) (h : F_M_resolve x1 x2 mn mc ms ml mk mf = some r) : Met l y_M_resolve (Cond.code y_M_resolve b_M_resolve 5 (some .boolean) :: lw_g) (rm_M_resolve) (va_Pc [.ref (a 20), .int x1, .int x2] (pcW D [(k 21, .int), (k 22, .int), (k 23, .int), (k 24, .boolean), (k 25, .boolean), (k 26, .long), (k 27, .int), (k 28, .long), (k 29, .int)] (wM a k mh mn mc ms ml mm mt mo mk mr my mb mf) sz)) (qc_M_resolve D (va_A (wM a k mh mn mc ms ml mm mt mo mk mr my mb mf) sz) a k mh mm mt mo mr my mb r) 0 0 (va_A (wM a k mh mn mc ms ml mm mt mo mk mr my mb mf) sz) := by
  refine Met.ofW (cc := b_M_resolve) (maxL := 5) (ret := (some .boolean)) (by decide) rfl ?_
  intro p e s m args below meth c s₁ B hml hv
  obtain ⟨rfl, hsz, hP, hK, hD0⟩ := hv
  have hts := atoms_spec (ws := Cond.code y_M_resolve b_M_resolve 5 (some .boolean) :: lw_g) B.pre
  subst hsz
  have hD := hD0.self (sz := s.heap.size)
  have hl := lv_entry ([.ref (a 20), .int x1, .int x2]) (n := 5) (Nat.le_of_ble_eq_true rfl)
  rw [lg_entry_eq]
  generalize (lg_sl ([.ref (a 20), .int x1, .int x2]) ++ List.replicate (5 - (lg_sl ([.ref (a 20), .int x1, .int x2])).length) Slot.unset).toArray = ls at hl ⊢
  exact k_M_resolve_0 ⟨B.exec, B.bytes, B.returns, hml, findClass_of_methodNamed B.named, fun w hw => hts w (List.mem_cons_of_mem _ hw), B.notSynchronized, fun q h => Or.inr h, hK⟩ _ _ _ _ _ _ _ _ _ h _ _ _ hP hD va_S.rf hl

def rm_M_change : Room := { frames := 0, cells := 0, slots := 0, locals := 0 }
def qc_M_change (D : va_G) (A : Nat → Prop) (a : Nat → Nat) (k : Nat → ClassId) (mh : Int32) (mn : Int32) (mc : Int32) (mm : Nat → Int32) (mt : Nat → Int32) (mo : Nat → Int32) (mr : Nat → Int64) (my : Nat → Int32) (mb : Nat → Int64) (mf : Nat → Int32) (r : Int32 × (Nat → Int32) × (Nat → Int32) × Int32) : Array Value → State → Outcome → State → Prop := va_Qi (fun (r1 : Int32) (_ : Unit) => r1 = r.1) (poW D [(k 21, .int), (k 22, .int), (k 23, .int), (k 24, .boolean), (k 25, .boolean), (k 26, .long), (k 27, .int), (k 28, .long), (k 29, .int)] (wM a k mh mn mc r.2.1 r.2.2.1 mm mt mo r.2.2.2 mr my mb mf) A) A
def J_M_change_25 (rec25 : Int32 → Int32 → Int32 → Int32 → (Nat → Int32) → (Nat → Int32) → Int32 → Option (Int32 × (Nat → Int32) × (Nat → Int32) × Int32)) (x1 : Int32) (x2 : Int32) (x3 : Int32) (mn : Int32) (ms : Nat → Int32) (ml : Nat → Int32) (mk : Int32) : Option (Int32 × (Nat → Int32) × (Nat → Int32) × Int32) :=
  (if (3 : Int32) ≤ x3 then (if inb (((4 : Int32) * x1) + (3 : Int32)) 40 then (if inb x1 10 then (if inb x1 10 then some ((1 : Int32), (upd ms x1.toNatClampNeg (-(ms x1.toNatClampNeg))), (upd ml (((4 : Int32) * x1) + (3 : Int32)).toNatClampNeg x2), (0 : Int32)) else none) else none) else none) else (if inb ((((4 : Int32) * x1) + x3) + (1 : Int32)) 40 then (if inb (((4 : Int32) * x1) + x3) 40 then rec25 x1 x2 (x3 + 1) mn ms (upd ml (((4 : Int32) * x1) + x3).toNatClampNeg (ml ((((4 : Int32) * x1) + x3) + (1 : Int32)).toNatClampNeg)) mk else none) else none))
def L_M_change_25 : Nat → Int32 → Int32 → Int32 → Int32 → (Nat → Int32) → (Nat → Int32) → Int32 → Option (Int32 × (Nat → Int32) × (Nat → Int32) × Int32)
  | 0 => fun _ _ _ _ _ _ _ => none
  | n + 1 => J_M_change_25 (L_M_change_25 n)
def J_M_change_0 (x1 : Int32) (mn : Int32) (ms : Nat → Int32) (ml : Nat → Int32) (mk : Int32) : Option (Int32 × (Nat → Int32) × (Nat → Int32) × Int32) :=
  (if x1 < 0 then some ((0 : Int32), ms, ml, mk) else (if x1 < mn then (if inb ((4 : Int32) * x1) 40 then L_M_change_25 fu x1 (ml ((4 : Int32) * x1).toNatClampNeg) (0 : Int32) mn ms ml mk else none) else some ((0 : Int32), ms, ml, mk)))
def F_M_change (x1 : Int32) (mn : Int32) (ms : Nat → Int32) (ml : Nat → Int32) (mk : Int32) : Option (Int32 × (Nat → Int32) × (Nat → Int32) × Int32) := J_M_change_0 x1 mn ms ml mk
def H_M_change_25 (p : Program) (l : Launch) (e : Env) (s : State) (m : MethodId) (args : Array Value) (below : List Frame) (meth : Method) (c : Code) (D : va_G) (A : Nat → Prop) (a : Nat → Nat) (k : Nat → ClassId) (mh : Int32) (mc : Int32) (mm : Nat → Int32) (mt : Nat → Int32) (mo : Nat → Int32) (mr : Nat → Int64) (my : Nat → Int32) (mb : Nat → Int64) (mf : Nat → Int32) (f : Int32 → Int32 → Int32 → Int32 → (Nat → Int32) → (Nat → Int32) → Int32 → Option (Int32 × (Nat → Int32) × (Nat → Int32) × Int32)) : Prop := ∀ (x1 : Int32) (x2 : Int32) (x3 : Int32) (mn : Int32) (ms : Nat → Int32) (ml : Nat → Int32) (mk : Int32) (r : Int32 × (Nat → Int32) × (Nat → Int32) × Int32), f x1 x2 x3 mn ms ml mk = some r → ∀ (H : Heap) (locs : List Loc) (ls : Array Slot), va_P D classes (wM a k mh mn mc ms ml mm mt mo mk mr my mb mf) H → va_D A (wM a k mh mn mc ms ml mm mt mo mk mr my mb mf) → va_S A s.heap H locs → lv_has ls 4 [(0, .ref (a 20)), (1, .int x1), (2, .int x2), (3, .int x3)] → W p l e (rm_M_change) s m args below meth c H locs 0 0 (MQ below (qc_M_change D A a k mh mn mc mm mt mo mr my mb mf r) args s 0 0 A) (F0 m 25 ls [])
def H_M_change_0 (p : Program) (l : Launch) (e : Env) (s : State) (m : MethodId) (args : Array Value) (below : List Frame) (meth : Method) (c : Code) (D : va_G) (A : Nat → Prop) (a : Nat → Nat) (k : Nat → ClassId) (mh : Int32) (mc : Int32) (mm : Nat → Int32) (mt : Nat → Int32) (mo : Nat → Int32) (mr : Nat → Int64) (my : Nat → Int32) (mb : Nat → Int64) (mf : Nat → Int32) (f : Int32 → Int32 → (Nat → Int32) → (Nat → Int32) → Int32 → Option (Int32 × (Nat → Int32) × (Nat → Int32) × Int32)) : Prop := ∀ (x1 : Int32) (mn : Int32) (ms : Nat → Int32) (ml : Nat → Int32) (mk : Int32) (r : Int32 × (Nat → Int32) × (Nat → Int32) × Int32), f x1 mn ms ml mk = some r → ∀ (H : Heap) (locs : List Loc) (ls : Array Slot), va_P D classes (wM a k mh mn mc ms ml mm mt mo mk mr my mb mf) H → va_D A (wM a k mh mn mc ms ml mm mt mo mk mr my mb mf) → va_S A s.heap H locs → lv_has ls 4 [(0, .ref (a 20)), (1, .int x1)] → W p l e (rm_M_change) s m args below meth c H locs 0 0 (MQ below (qc_M_change D A a k mh mn mc mm mt mo mr my mb mf r) args s 0 0 A) (F0 m 0 ls [])
set_option maxHeartbeats 4000000 in
set_option maxRecDepth 100000 in
theorem k_M_change_25 {p : Program} {l : Launch} {e : Env} {s : State} {m : MethodId} {args : Array Value} {below : List Frame} {meth : Method} {c : Code} {D : va_G} {A : Nat → Prop} {a : Nat → Nat} {k : Nat → ClassId} {mh : Int32} {mc : Int32} {mm : Nat → Int32} {mt : Nat → Int32} {mo : Nat → Int32} {mr : Nat → Int64} {my : Nat → Int32} {mb : Nat → Int64} {mf : Nat → Int32} {rec25 : Int32 → Int32 → Int32 → Int32 → (Nat → Int32) → (Nat → Int32) → Int32 → Option (Int32 × (Nat → Int32) × (Nat → Int32) × Int32)} (C : cx D [(k 21, .int), (k 22, .int), (k 23, .int), (k 24, .boolean), (k 25, .boolean), (k 26, .long), (k 27, .int), (k 28, .long), (k 29, .int)] R_M b_M_change 4 (some .boolean) A p s m args meth c) (hrec25 : H_M_change_25 p l e s m args below meth c D A a k mh mc mm mt mo mr my mb mf rec25) : H_M_change_25 p l e s m args below meth c D A a k mh mc mm mt mo mr my mb mf (J_M_change_25 rec25) := by
  obtain ⟨hx, hb, hr, hml, hown, ht, hlk, hA, hK⟩ := id C
  intro x1 x2 x3 mn ms ml mk r h H locs ls hP hD hS hl
  unfold J_M_change_25 at h
  refine lv_iload_n hx hb d_M_change_25 rfl (lv_at hl 3 rfl) ?_
  refine lv_iconst (v := 3) hx hb d_M_change_26 (by decide) ?_
  refine lv_icmp_ge (tgt := 58) hx hb d_M_change_27 (by decide) (fun c_1 => ?_) (fun c_1 => ?_)
  · have h := ite_T c_1 h
    refine lv_aload_n hx hb d_M_change_58 rfl (lv_at hl 0 rfl) ?_
    refine va_get (D := D) (ci := 3) (v := .ref (a 22)) (C := R_M) (T := F_M) (N := 13) hx hb ht iC_M hown hK hP 0 rfl rfl 4 (by decide) (ht _ ix_164) (fun _ h9 => h9) rfl d_M_change_59 ?_
    refine lv_iconst (v := 4) hx hb d_M_change_62 (by decide) ?_
    refine lv_iload_n hx hb d_M_change_63 rfl (lv_at hl 1 rfl) ?_
    refine lv_imul hx hb d_M_change_64 ?_
    refine lv_iconst (v := 3) hx hb d_M_change_65 (by decide) ?_
    refine lv_iadd hx hb d_M_change_66 ?_
    refine lv_iload_n hx hb d_M_change_67 rfl (lv_at hl 2 rfl) ?_
    obtain ⟨g_2, h⟩ := gd_some h
    refine va_iast hx hb hK hP hD hS 2 1 rfl rfl (inb_in g_2) d_M_change_68 (fun H locs hP hD hS => ?_)
    have hP : va_P D classes (wM a k mh mn mc ms (upd ml (((4 : Int32) * x1) + (3 : Int32)).toNatClampNeg x2) mm mt mo mk mr my mb mf) H := hP
    have hD : va_D A (wM a k mh mn mc ms (upd ml (((4 : Int32) * x1) + (3 : Int32)).toNatClampNeg x2) mm mt mo mk mr my mb mf) := hD
    refine lv_aload_n hx hb d_M_change_69 rfl (lv_at hl 0 rfl) ?_
    refine va_get (D := D) (ci := 3) (v := .ref (a 21)) (C := R_M) (T := F_M) (N := 13) hx hb ht iC_M hown hK hP 0 rfl rfl 3 (by decide) (ht _ ix_199) (fun _ h9 => h9) rfl d_M_change_70 ?_
    refine lv_iload_n hx hb d_M_change_73 rfl (lv_at hl 1 rfl) ?_
    refine lv_aload_n hx hb d_M_change_74 rfl (lv_at hl 0 rfl) ?_
    refine va_get (D := D) (ci := 3) (v := .ref (a 21)) (C := R_M) (T := F_M) (N := 13) hx hb ht iC_M hown hK hP 0 rfl rfl 3 (by decide) (ht _ ix_199) (fun _ h9 => h9) rfl d_M_change_75 ?_
    refine lv_iload_n hx hb d_M_change_78 rfl (lv_at hl 1 rfl) ?_
    obtain ⟨g_3, h⟩ := gd_some h
    refine va_iald hx hb hK hP 1 0 rfl rfl (inb_in g_3) d_M_change_79 ?_
    refine lv_ineg hx hb d_M_change_80 ?_
    obtain ⟨g_4, h⟩ := gd_some h
    refine va_iast hx hb hK hP hD hS 1 0 rfl rfl (inb_in g_4) d_M_change_81 (fun H locs hP hD hS => ?_)
    have hP : va_P D classes (wM a k mh mn mc (upd ms x1.toNatClampNeg (-(ms x1.toNatClampNeg))) (upd ml (((4 : Int32) * x1) + (3 : Int32)).toNatClampNeg x2) mm mt mo mk mr my mb mf) H := hP
    have hD : va_D A (wM a k mh mn mc (upd ms x1.toNatClampNeg (-(ms x1.toNatClampNeg))) (upd ml (((4 : Int32) * x1) + (3 : Int32)).toNatClampNeg x2) mm mt mo mk mr my mb mf) := hD
    refine lv_aload_n hx hb d_M_change_82 rfl (lv_at hl 0 rfl) ?_
    refine lv_iconst (v := 0) hx hb d_M_change_83 (by decide) ?_
    refine va_put (D := D) (ci := 3) (v := .int (0 : Int32)) (ty := .boolean) (C := R_M) (T := F_M) (N := 13) hx hb ht iC_M t_M t_M_ok n_M hown hK hP hD hS 0 rfl rfl 8 (by decide) (ht _ ix_190) (fun _ h9 => h9) rfl (by decide +kernel) rfl rfl (Nat.le_of_ble_eq_true rfl) d_M_change_84 (fun H locs hP hD hS => ?_)
    have hP : va_P D classes (wM a k mh mn mc (upd ms x1.toNatClampNeg (-(ms x1.toNatClampNeg))) (upd ml (((4 : Int32) * x1) + (3 : Int32)).toNatClampNeg x2) mm mt mo (0 : Int32) mr my mb mf) H := hP
    have hD : va_D A (wM a k mh mn mc (upd ms x1.toNatClampNeg (-(ms x1.toNatClampNeg))) (upd ml (((4 : Int32) * x1) + (3 : Int32)).toNatClampNeg x2) mm mt mo (0 : Int32) mr my mb mf) := hD
    refine lv_iconst (v := 1) hx hb d_M_change_87 (by decide) ?_
    cases h
    exact W.zret hx hb hr rfl (fun t ht hW => ⟨⟨_, (), rfl, rfl, by rw [ht]; exact hP, va_K.moved hW.alike hK, hD⟩, hS.F ht⟩) hS.2.2 d_M_change_88 hlk
  · have h := ite_F c_1 h
    refine lv_aload_n hx hb d_M_change_30 rfl (lv_at hl 0 rfl) ?_
    refine va_get (D := D) (ci := 3) (v := .ref (a 22)) (C := R_M) (T := F_M) (N := 13) hx hb ht iC_M hown hK hP 0 rfl rfl 4 (by decide) (ht _ ix_164) (fun _ h9 => h9) rfl d_M_change_31 ?_
    refine lv_iconst (v := 4) hx hb d_M_change_34 (by decide) ?_
    refine lv_iload_n hx hb d_M_change_35 rfl (lv_at hl 1 rfl) ?_
    refine lv_imul hx hb d_M_change_36 ?_
    refine lv_iload_n hx hb d_M_change_37 rfl (lv_at hl 3 rfl) ?_
    refine lv_iadd hx hb d_M_change_38 ?_
    refine lv_aload_n hx hb d_M_change_39 rfl (lv_at hl 0 rfl) ?_
    refine va_get (D := D) (ci := 3) (v := .ref (a 22)) (C := R_M) (T := F_M) (N := 13) hx hb ht iC_M hown hK hP 0 rfl rfl 4 (by decide) (ht _ ix_164) (fun _ h9 => h9) rfl d_M_change_40 ?_
    refine lv_iconst (v := 4) hx hb d_M_change_43 (by decide) ?_
    refine lv_iload_n hx hb d_M_change_44 rfl (lv_at hl 1 rfl) ?_
    refine lv_imul hx hb d_M_change_45 ?_
    refine lv_iload_n hx hb d_M_change_46 rfl (lv_at hl 3 rfl) ?_
    refine lv_iadd hx hb d_M_change_47 ?_
    refine lv_iconst (v := 1) hx hb d_M_change_48 (by decide) ?_
    refine lv_iadd hx hb d_M_change_49 ?_
    obtain ⟨g_5, h⟩ := gd_some h
    refine va_iald hx hb hK hP 2 1 rfl rfl (inb_in g_5) d_M_change_50 ?_
    obtain ⟨g_6, h⟩ := gd_some h
    refine va_iast hx hb hK hP hD hS 2 1 rfl rfl (inb_in g_6) d_M_change_51 (fun H locs hP hD hS => ?_)
    have hP : va_P D classes (wM a k mh mn mc ms (upd ml (((4 : Int32) * x1) + x3).toNatClampNeg (ml ((((4 : Int32) * x1) + x3) + (1 : Int32)).toNatClampNeg)) mm mt mo mk mr my mb mf) H := hP
    have hD : va_D A (wM a k mh mn mc ms (upd ml (((4 : Int32) * x1) + x3).toNatClampNeg (ml ((((4 : Int32) * x1) + x3) + (1 : Int32)).toNatClampNeg)) mm mt mo mk mr my mb mf) := hD
    refine lv_iinc (v := x3 + 1) (lv' := [(3, .int (x3 + 1)), (0, .ref (a 20)), (1, .int x1), (2, .int x2)]) hx hb d_M_change_52 hl (k := 3) rfl rfl (by decide) rfl (fun ls hl => ?_)
    refine lv_goto (tgt := 25) hx hb d_M_change_55 (by decide) ?_
    exact hrec25 _ _ _ _ _ _ _ _ h _ _ _ hP hD hS (lv_sub hl [1, 2, 3, 0] rfl)
theorem k_M_change_25_L {p : Program} {l : Launch} {e : Env} {s : State} {m : MethodId} {args : Array Value} {below : List Frame} {meth : Method} {c : Code} {D : va_G} {A : Nat → Prop} {a : Nat → Nat} {k : Nat → ClassId} {mh : Int32} {mc : Int32} {mm : Nat → Int32} {mt : Nat → Int32} {mo : Nat → Int32} {mr : Nat → Int64} {my : Nat → Int32} {mb : Nat → Int64} {mf : Nat → Int32} (C : cx D [(k 21, .int), (k 22, .int), (k 23, .int), (k 24, .boolean), (k 25, .boolean), (k 26, .long), (k 27, .int), (k 28, .long), (k 29, .int)] R_M b_M_change 4 (some .boolean) A p s m args meth c) : ∀ n : Nat, H_M_change_25 p l e s m args below meth c D A a k mh mc mm mt mo mr my mb mf (L_M_change_25 n)
  | 0 => fun _ _ _ _ _ _ _ _ h => nomatch h
  | n + 1 => k_M_change_25 C (k_M_change_25_L C n)
set_option maxHeartbeats 4000000 in
set_option maxRecDepth 100000 in
theorem k_M_change_0 {p : Program} {l : Launch} {e : Env} {s : State} {m : MethodId} {args : Array Value} {below : List Frame} {meth : Method} {c : Code} {D : va_G} {A : Nat → Prop} {a : Nat → Nat} {k : Nat → ClassId} {mh : Int32} {mc : Int32} {mm : Nat → Int32} {mt : Nat → Int32} {mo : Nat → Int32} {mr : Nat → Int64} {my : Nat → Int32} {mb : Nat → Int64} {mf : Nat → Int32} (C : cx D [(k 21, .int), (k 22, .int), (k 23, .int), (k 24, .boolean), (k 25, .boolean), (k 26, .long), (k 27, .int), (k 28, .long), (k 29, .int)] R_M b_M_change 4 (some .boolean) A p s m args meth c) : H_M_change_0 p l e s m args below meth c D A a k mh mc mm mt mo mr my mb mf (J_M_change_0) := by
  obtain ⟨hx, hb, hr, hml, hown, ht, hlk, hA, hK⟩ := id C
  intro x1 mn ms ml mk r h H locs ls hP hD hS hl
  unfold J_M_change_0 at h
  refine lv_iload_n hx hb d_M_change_0 rfl (lv_at hl 1 rfl) ?_
  refine lv_if_lt (tgt := 12) hx hb d_M_change_1 (by decide) (fun c_1 => ?_) (fun c_1 => ?_)
  · have h := ite_T c_1 h
    refine lv_iconst (v := 0) hx hb d_M_change_12 (by decide) ?_
    cases h
    exact W.zret hx hb hr rfl (fun t ht hW => ⟨⟨_, (), rfl, rfl, by rw [ht]; exact hP, va_K.moved hW.alike hK, hD⟩, hS.F ht⟩) hS.2.2 d_M_change_13 hlk
  · have h := ite_F c_1 h
    refine lv_iload_n hx hb d_M_change_4 rfl (lv_at hl 1 rfl) ?_
    refine lv_aload_n hx hb d_M_change_5 rfl (lv_at hl 0 rfl) ?_
    refine va_get (D := D) (ci := 3) (v := .int mn) (C := R_M) (T := F_M) (N := 13) hx hb ht iC_M hown hK hP 0 rfl rfl 1 (by decide) (ht _ ix_163) (fun _ h9 => h9) rfl d_M_change_6 ?_
    refine lv_icmp_lt (tgt := 14) hx hb d_M_change_9 (by decide) (fun c_2 => ?_) (fun c_2 => ?_)
    · have h := ite_T c_2 h
      refine lv_aload_n hx hb d_M_change_14 rfl (lv_at hl 0 rfl) ?_
      refine va_get (D := D) (ci := 3) (v := .ref (a 22)) (C := R_M) (T := F_M) (N := 13) hx hb ht iC_M hown hK hP 0 rfl rfl 4 (by decide) (ht _ ix_164) (fun _ h9 => h9) rfl d_M_change_15 ?_
      refine lv_iconst (v := 4) hx hb d_M_change_18 (by decide) ?_
      refine lv_iload_n hx hb d_M_change_19 rfl (lv_at hl 1 rfl) ?_
      refine lv_imul hx hb d_M_change_20 ?_
      obtain ⟨g_3, h⟩ := gd_some h
      refine va_iald hx hb hK hP 2 1 rfl rfl (inb_in g_3) d_M_change_21 ?_
      refine lv_istore_n (lv' := [(2, .int (ml ((4 : Int32) * x1).toNatClampNeg)), (0, .ref (a 20)), (1, .int x1)]) hx hb d_M_change_22 rfl hl (by decide) rfl (fun ls hl => ?_)
      refine lv_iconst (v := 0) hx hb d_M_change_23 (by decide) ?_
      refine lv_istore_n (lv' := [(3, .int (0 : Int32)), (2, .int (ml ((4 : Int32) * x1).toNatClampNeg)), (0, .ref (a 20)), (1, .int x1)]) hx hb d_M_change_24 rfl hl (by decide) rfl (fun ls hl => ?_)
      exact (k_M_change_25_L C fu) _ _ _ _ _ _ _ _ h _ _ _ hP hD hS (lv_sub hl [2, 3, 1, 0] rfl)
    · have h := ite_F c_2 h
      refine lv_iconst (v := 0) hx hb d_M_change_12 (by decide) ?_
      cases h
      exact W.zret hx hb hr rfl (fun t ht hW => ⟨⟨_, (), rfl, rfl, by rw [ht]; exact hP, va_K.moved hW.alike hK, hD⟩, hS.F ht⟩) hS.2.2 d_M_change_13 hlk
set_option maxRecDepth 20000 in
theorem c_M_change (l : Launch) (D : va_G) (a : Nat → Nat) (k : Nat → ClassId) (sz : Nat) (x1 : Int32) (mh : Int32) (mn : Int32) (mc : Int32) (ms : Nat → Int32) (ml : Nat → Int32) (mm : Nat → Int32) (mt : Nat → Int32) (mo : Nat → Int32) (mk : Int32) (mr : Nat → Int64) (my : Nat → Int32) (mb : Nat → Int64) (mf : Nat → Int32) (r : Int32 × (Nat → Int32) × (Nat → Int32) × Int32) (h : F_M_change x1 mn ms ml mk = some r) : Met l y_M_change (Cond.code y_M_change b_M_change 4 (some .boolean) :: lw_g) (rm_M_change) (va_Pc [.ref (a 20), .int x1] (pcW D [(k 21, .int), (k 22, .int), (k 23, .int), (k 24, .boolean), (k 25, .boolean), (k 26, .long), (k 27, .int), (k 28, .long), (k 29, .int)] (wM a k mh mn mc ms ml mm mt mo mk mr my mb mf) sz)) (qc_M_change D (va_A (wM a k mh mn mc ms ml mm mt mo mk mr my mb mf) sz) a k mh mn mc mm mt mo mr my mb mf r) 0 0 (va_A (wM a k mh mn mc ms ml mm mt mo mk mr my mb mf) sz) := by
  refine Met.ofW (cc := b_M_change) (maxL := 4) (ret := (some .boolean)) (by decide) rfl ?_
  intro p e s m args below meth c s₁ B hml hv
  obtain ⟨rfl, hsz, hP, hK, hD0⟩ := hv
  have hts := atoms_spec (ws := Cond.code y_M_change b_M_change 4 (some .boolean) :: lw_g) B.pre
  subst hsz
  have hD := hD0.self (sz := s.heap.size)
  have hl := lv_entry ([.ref (a 20), .int x1]) (n := 4) (Nat.le_of_ble_eq_true rfl)
  rw [lg_entry_eq]
  generalize (lg_sl ([.ref (a 20), .int x1]) ++ List.replicate (4 - (lg_sl ([.ref (a 20), .int x1])).length) Slot.unset).toArray = ls at hl ⊢
  exact k_M_change_0 ⟨B.exec, B.bytes, B.returns, hml, findClass_of_methodNamed B.named, fun w hw => hts w (List.mem_cons_of_mem _ hw), B.notSynchronized, fun q h => Or.inr h, hK⟩ _ _ _ _ _ _ h _ _ _ hP hD va_S.rf hl

def rm_M_exchange : Room := { frames := 0, cells := 0, slots := 0, locals := 0 }
def qc_M_exchange (D : va_G) (A : Nat → Prop) (a : Nat → Nat) (k : Nat → ClassId) (mh : Int32) (mn : Int32) (mc : Int32) (mm : Nat → Int32) (mt : Nat → Int32) (mo : Nat → Int32) (mk : Int32) (mr : Nat → Int64) (my : Nat → Int32) (mb : Nat → Int64) (mf : Nat → Int32) (r : (Nat → Int32) × (Nat → Int32)) : Array Value → State → Outcome → State → Prop := va_Qv (fun (_ : Unit) => True) (poW D [(k 21, .int), (k 22, .int), (k 23, .int), (k 24, .boolean), (k 25, .boolean), (k 26, .long), (k 27, .int), (k 28, .long), (k 29, .int)] (wM a k mh mn mc r.1 r.2 mm mt mo mk mr my mb mf) A) A
def J_M_exchange_32 (rec32 : Int32 → Int32 → (Nat → Int32) → (Nat → Int32) → Option ((Nat → Int32) × (Nat → Int32))) (x1 : Int32) (x3 : Int32) (ms : Nat → Int32) (ml : Nat → Int32) : Option ((Nat → Int32) × (Nat → Int32)) :=
  (if (4 : Int32) ≤ x3 then some (ms, ml) else (if inb (((4 : Int32) * x1) + x3) 40 then (if inb ((((4 : Int32) * x1) + (4 : Int32)) + x3) 40 then (if inb (((4 : Int32) * x1) + x3) 40 then (if inb ((((4 : Int32) * x1) + (4 : Int32)) + x3) 40 then rec32 x1 (x3 + 1) ms (upd (upd ml (((4 : Int32) * x1) + x3).toNatClampNeg (ml ((((4 : Int32) * x1) + (4 : Int32)) + x3).toNatClampNeg)) ((((4 : Int32) * x1) + (4 : Int32)) + x3).toNatClampNeg (ml (((4 : Int32) * x1) + x3).toNatClampNeg)) else none) else none) else none) else none))
def L_M_exchange_32 : Nat → Int32 → Int32 → (Nat → Int32) → (Nat → Int32) → Option ((Nat → Int32) × (Nat → Int32))
  | 0 => fun _ _ _ _ => none
  | n + 1 => J_M_exchange_32 (L_M_exchange_32 n)
def J_M_exchange_0 (x1 : Int32) (ms : Nat → Int32) (ml : Nat → Int32) : Option ((Nat → Int32) × (Nat → Int32)) :=
  (if inb x1 10 then (if inb (x1 + (1 : Int32)) 10 then (if inb x1 10 then (if inb (x1 + (1 : Int32)) 10 then L_M_exchange_32 fu x1 (0 : Int32) (upd (upd ms x1.toNatClampNeg (ms (x1 + (1 : Int32)).toNatClampNeg)) (x1 + (1 : Int32)).toNatClampNeg (ms x1.toNatClampNeg)) ml else none) else none) else none) else none)
def F_M_exchange (x1 : Int32) (ms : Nat → Int32) (ml : Nat → Int32) : Option ((Nat → Int32) × (Nat → Int32)) := J_M_exchange_0 x1 ms ml
def H_M_exchange_32 (p : Program) (l : Launch) (e : Env) (s : State) (m : MethodId) (args : Array Value) (below : List Frame) (meth : Method) (c : Code) (D : va_G) (A : Nat → Prop) (a : Nat → Nat) (k : Nat → ClassId) (mh : Int32) (mn : Int32) (mc : Int32) (mm : Nat → Int32) (mt : Nat → Int32) (mo : Nat → Int32) (mk : Int32) (mr : Nat → Int64) (my : Nat → Int32) (mb : Nat → Int64) (mf : Nat → Int32) (f : Int32 → Int32 → (Nat → Int32) → (Nat → Int32) → Option ((Nat → Int32) × (Nat → Int32))) : Prop := ∀ (x1 : Int32) (x3 : Int32) (ms : Nat → Int32) (ml : Nat → Int32) (r : (Nat → Int32) × (Nat → Int32)), f x1 x3 ms ml = some r → ∀ (H : Heap) (locs : List Loc) (ls : Array Slot), va_P D classes (wM a k mh mn mc ms ml mm mt mo mk mr my mb mf) H → va_D A (wM a k mh mn mc ms ml mm mt mo mk mr my mb mf) → va_S A s.heap H locs → lv_has ls 5 [(0, .ref (a 20)), (1, .int x1), (3, .int x3)] → W p l e (rm_M_exchange) s m args below meth c H locs 0 0 (MQ below (qc_M_exchange D A a k mh mn mc mm mt mo mk mr my mb mf r) args s 0 0 A) (F0 m 32 ls [])
def H_M_exchange_0 (p : Program) (l : Launch) (e : Env) (s : State) (m : MethodId) (args : Array Value) (below : List Frame) (meth : Method) (c : Code) (D : va_G) (A : Nat → Prop) (a : Nat → Nat) (k : Nat → ClassId) (mh : Int32) (mn : Int32) (mc : Int32) (mm : Nat → Int32) (mt : Nat → Int32) (mo : Nat → Int32) (mk : Int32) (mr : Nat → Int64) (my : Nat → Int32) (mb : Nat → Int64) (mf : Nat → Int32) (f : Int32 → (Nat → Int32) → (Nat → Int32) → Option ((Nat → Int32) × (Nat → Int32))) : Prop := ∀ (x1 : Int32) (ms : Nat → Int32) (ml : Nat → Int32) (r : (Nat → Int32) × (Nat → Int32)), f x1 ms ml = some r → ∀ (H : Heap) (locs : List Loc) (ls : Array Slot), va_P D classes (wM a k mh mn mc ms ml mm mt mo mk mr my mb mf) H → va_D A (wM a k mh mn mc ms ml mm mt mo mk mr my mb mf) → va_S A s.heap H locs → lv_has ls 5 [(0, .ref (a 20)), (1, .int x1)] → W p l e (rm_M_exchange) s m args below meth c H locs 0 0 (MQ below (qc_M_exchange D A a k mh mn mc mm mt mo mk mr my mb mf r) args s 0 0 A) (F0 m 0 ls [])
set_option maxHeartbeats 4000000 in
set_option maxRecDepth 100000 in
theorem k_M_exchange_32 {p : Program} {l : Launch} {e : Env} {s : State} {m : MethodId} {args : Array Value} {below : List Frame} {meth : Method} {c : Code} {D : va_G} {A : Nat → Prop} {a : Nat → Nat} {k : Nat → ClassId} {mh : Int32} {mn : Int32} {mc : Int32} {mm : Nat → Int32} {mt : Nat → Int32} {mo : Nat → Int32} {mk : Int32} {mr : Nat → Int64} {my : Nat → Int32} {mb : Nat → Int64} {mf : Nat → Int32} {rec32 : Int32 → Int32 → (Nat → Int32) → (Nat → Int32) → Option ((Nat → Int32) × (Nat → Int32))} (C : cx D [(k 21, .int), (k 22, .int), (k 23, .int), (k 24, .boolean), (k 25, .boolean), (k 26, .long), (k 27, .int), (k 28, .long), (k 29, .int)] R_M b_M_exchange 5 none A p s m args meth c) (hrec32 : H_M_exchange_32 p l e s m args below meth c D A a k mh mn mc mm mt mo mk mr my mb mf rec32) : H_M_exchange_32 p l e s m args below meth c D A a k mh mn mc mm mt mo mk mr my mb mf (J_M_exchange_32 rec32) := by
  obtain ⟨hx, hb, hr, hml, hown, ht, hlk, hA, hK⟩ := id C
  intro x1 x3 ms ml r h H locs ls hP hD hS hl
  unfold J_M_exchange_32 at h
  refine lv_iload_n hx hb d_M_exchange_32 rfl (lv_at hl 2 rfl) ?_
  refine lv_iconst (v := 4) hx hb d_M_exchange_33 (by decide) ?_
  refine lv_icmp_ge (tgt := 91) hx hb d_M_exchange_34 (by decide) (fun c_1 => ?_) (fun c_1 => ?_)
  · have h := ite_T c_1 h
    cases h
    exact W.vret hx hb hr (fun t ht hW => ⟨⟨(), rfl, trivial, by rw [ht]; exact hP, va_K.moved hW.alike hK, hD⟩, hS.F ht⟩) hS.2.2 d_M_exchange_91 hlk
  · have h := ite_F c_1 h
    refine lv_aload_n hx hb d_M_exchange_37 rfl (lv_at hl 0 rfl) ?_
    refine va_get (D := D) (ci := 3) (v := .ref (a 22)) (C := R_M) (T := F_M) (N := 13) hx hb ht iC_M hown hK hP 0 rfl rfl 4 (by decide) (ht _ ix_164) (fun _ h9 => h9) rfl d_M_exchange_38 ?_
    refine lv_iconst (v := 4) hx hb d_M_exchange_41 (by decide) ?_
    refine lv_iload_n hx hb d_M_exchange_42 rfl (lv_at hl 1 rfl) ?_
    refine lv_imul hx hb d_M_exchange_43 ?_
    refine lv_iload_n hx hb d_M_exchange_44 rfl (lv_at hl 2 rfl) ?_
    refine lv_iadd hx hb d_M_exchange_45 ?_
    obtain ⟨g_2, h⟩ := gd_some h
    refine va_iald hx hb hK hP 2 1 rfl rfl (inb_in g_2) d_M_exchange_46 ?_
    refine lv_istore (lv' := [(4, .int (ml (((4 : Int32) * x1) + x3).toNatClampNeg)), (0, .ref (a 20)), (1, .int x1), (3, .int x3)]) hx hb d_M_exchange_47 hl (by decide) rfl (fun ls hl => ?_)
    refine lv_aload_n hx hb d_M_exchange_49 rfl (lv_at hl 1 rfl) ?_
    refine va_get (D := D) (ci := 3) (v := .ref (a 22)) (C := R_M) (T := F_M) (N := 13) hx hb ht iC_M hown hK hP 0 rfl rfl 4 (by decide) (ht _ ix_164) (fun _ h9 => h9) rfl d_M_exchange_50 ?_
    refine lv_iconst (v := 4) hx hb d_M_exchange_53 (by decide) ?_
    refine lv_iload_n hx hb d_M_exchange_54 rfl (lv_at hl 2 rfl) ?_
    refine lv_imul hx hb d_M_exchange_55 ?_
    refine lv_iload_n hx hb d_M_exchange_56 rfl (lv_at hl 3 rfl) ?_
    refine lv_iadd hx hb d_M_exchange_57 ?_
    refine lv_aload_n hx hb d_M_exchange_58 rfl (lv_at hl 1 rfl) ?_
    refine va_get (D := D) (ci := 3) (v := .ref (a 22)) (C := R_M) (T := F_M) (N := 13) hx hb ht iC_M hown hK hP 0 rfl rfl 4 (by decide) (ht _ ix_164) (fun _ h9 => h9) rfl d_M_exchange_59 ?_
    refine lv_iconst (v := 4) hx hb d_M_exchange_62 (by decide) ?_
    refine lv_iload_n hx hb d_M_exchange_63 rfl (lv_at hl 2 rfl) ?_
    refine lv_imul hx hb d_M_exchange_64 ?_
    refine lv_iconst (v := 4) hx hb d_M_exchange_65 (by decide) ?_
    refine lv_iadd hx hb d_M_exchange_66 ?_
    refine lv_iload_n hx hb d_M_exchange_67 rfl (lv_at hl 3 rfl) ?_
    refine lv_iadd hx hb d_M_exchange_68 ?_
    obtain ⟨g_3, h⟩ := gd_some h
    refine va_iald hx hb hK hP 2 1 rfl rfl (inb_in g_3) d_M_exchange_69 ?_
    obtain ⟨g_4, h⟩ := gd_some h
    refine va_iast hx hb hK hP hD hS 2 1 rfl rfl (inb_in g_4) d_M_exchange_70 (fun H locs hP hD hS => ?_)
    have hP : va_P D classes (wM a k mh mn mc ms (upd ml (((4 : Int32) * x1) + x3).toNatClampNeg (ml ((((4 : Int32) * x1) + (4 : Int32)) + x3).toNatClampNeg)) mm mt mo mk mr my mb mf) H := hP
    have hD : va_D A (wM a k mh mn mc ms (upd ml (((4 : Int32) * x1) + x3).toNatClampNeg (ml ((((4 : Int32) * x1) + (4 : Int32)) + x3).toNatClampNeg)) mm mt mo mk mr my mb mf) := hD
    refine lv_aload_n hx hb d_M_exchange_71 rfl (lv_at hl 1 rfl) ?_
    refine va_get (D := D) (ci := 3) (v := .ref (a 22)) (C := R_M) (T := F_M) (N := 13) hx hb ht iC_M hown hK hP 0 rfl rfl 4 (by decide) (ht _ ix_164) (fun _ h9 => h9) rfl d_M_exchange_72 ?_
    refine lv_iconst (v := 4) hx hb d_M_exchange_75 (by decide) ?_
    refine lv_iload_n hx hb d_M_exchange_76 rfl (lv_at hl 2 rfl) ?_
    refine lv_imul hx hb d_M_exchange_77 ?_
    refine lv_iconst (v := 4) hx hb d_M_exchange_78 (by decide) ?_
    refine lv_iadd hx hb d_M_exchange_79 ?_
    refine lv_iload_n hx hb d_M_exchange_80 rfl (lv_at hl 3 rfl) ?_
    refine lv_iadd hx hb d_M_exchange_81 ?_
    refine lv_iload hx hb d_M_exchange_82 (lv_at hl 0 rfl) ?_
    obtain ⟨g_5, h⟩ := gd_some h
    refine va_iast hx hb hK hP hD hS 2 1 rfl rfl (inb_in g_5) d_M_exchange_84 (fun H locs hP hD hS => ?_)
    have hP : va_P D classes (wM a k mh mn mc ms (upd (upd ml (((4 : Int32) * x1) + x3).toNatClampNeg (ml ((((4 : Int32) * x1) + (4 : Int32)) + x3).toNatClampNeg)) ((((4 : Int32) * x1) + (4 : Int32)) + x3).toNatClampNeg (ml (((4 : Int32) * x1) + x3).toNatClampNeg)) mm mt mo mk mr my mb mf) H := hP
    have hD : va_D A (wM a k mh mn mc ms (upd (upd ml (((4 : Int32) * x1) + x3).toNatClampNeg (ml ((((4 : Int32) * x1) + (4 : Int32)) + x3).toNatClampNeg)) ((((4 : Int32) * x1) + (4 : Int32)) + x3).toNatClampNeg (ml (((4 : Int32) * x1) + x3).toNatClampNeg)) mm mt mo mk mr my mb mf) := hD
    refine lv_iinc (v := x3 + 1) (lv' := [(3, .int (x3 + 1)), (4, .int (ml (((4 : Int32) * x1) + x3).toNatClampNeg)), (0, .ref (a 20)), (1, .int x1)]) hx hb d_M_exchange_85 hl (k := 3) rfl rfl (by decide) rfl (fun ls hl => ?_)
    refine lv_goto (tgt := 32) hx hb d_M_exchange_88 (by decide) ?_
    exact hrec32 _ _ _ _ _ h _ _ _ hP hD hS (lv_sub hl [2, 3, 0] rfl)
theorem k_M_exchange_32_L {p : Program} {l : Launch} {e : Env} {s : State} {m : MethodId} {args : Array Value} {below : List Frame} {meth : Method} {c : Code} {D : va_G} {A : Nat → Prop} {a : Nat → Nat} {k : Nat → ClassId} {mh : Int32} {mn : Int32} {mc : Int32} {mm : Nat → Int32} {mt : Nat → Int32} {mo : Nat → Int32} {mk : Int32} {mr : Nat → Int64} {my : Nat → Int32} {mb : Nat → Int64} {mf : Nat → Int32} (C : cx D [(k 21, .int), (k 22, .int), (k 23, .int), (k 24, .boolean), (k 25, .boolean), (k 26, .long), (k 27, .int), (k 28, .long), (k 29, .int)] R_M b_M_exchange 5 none A p s m args meth c) : ∀ n : Nat, H_M_exchange_32 p l e s m args below meth c D A a k mh mn mc mm mt mo mk mr my mb mf (L_M_exchange_32 n)
  | 0 => fun _ _ _ _ _ h => nomatch h
  | n + 1 => k_M_exchange_32 C (k_M_exchange_32_L C n)
set_option maxHeartbeats 4000000 in
set_option maxRecDepth 100000 in
theorem k_M_exchange_0 {p : Program} {l : Launch} {e : Env} {s : State} {m : MethodId} {args : Array Value} {below : List Frame} {meth : Method} {c : Code} {D : va_G} {A : Nat → Prop} {a : Nat → Nat} {k : Nat → ClassId} {mh : Int32} {mn : Int32} {mc : Int32} {mm : Nat → Int32} {mt : Nat → Int32} {mo : Nat → Int32} {mk : Int32} {mr : Nat → Int64} {my : Nat → Int32} {mb : Nat → Int64} {mf : Nat → Int32} (C : cx D [(k 21, .int), (k 22, .int), (k 23, .int), (k 24, .boolean), (k 25, .boolean), (k 26, .long), (k 27, .int), (k 28, .long), (k 29, .int)] R_M b_M_exchange 5 none A p s m args meth c) : H_M_exchange_0 p l e s m args below meth c D A a k mh mn mc mm mt mo mk mr my mb mf (J_M_exchange_0) := by
  obtain ⟨hx, hb, hr, hml, hown, ht, hlk, hA, hK⟩ := id C
  intro x1 ms ml r h H locs ls hP hD hS hl
  unfold J_M_exchange_0 at h
  refine lv_aload_n hx hb d_M_exchange_0 rfl (lv_at hl 0 rfl) ?_
  refine va_get (D := D) (ci := 3) (v := .ref (a 21)) (C := R_M) (T := F_M) (N := 13) hx hb ht iC_M hown hK hP 0 rfl rfl 3 (by decide) (ht _ ix_199) (fun _ h9 => h9) rfl d_M_exchange_1 ?_
  refine lv_iload_n hx hb d_M_exchange_4 rfl (lv_at hl 1 rfl) ?_
  obtain ⟨g_1, h⟩ := gd_some h
  refine va_iald hx hb hK hP 1 0 rfl rfl (inb_in g_1) d_M_exchange_5 ?_
  refine lv_istore_n (lv' := [(2, .int (ms x1.toNatClampNeg)), (0, .ref (a 20)), (1, .int x1)]) hx hb d_M_exchange_6 rfl hl (by decide) rfl (fun ls hl => ?_)
  refine lv_aload_n hx hb d_M_exchange_7 rfl (lv_at hl 1 rfl) ?_
  refine va_get (D := D) (ci := 3) (v := .ref (a 21)) (C := R_M) (T := F_M) (N := 13) hx hb ht iC_M hown hK hP 0 rfl rfl 3 (by decide) (ht _ ix_199) (fun _ h9 => h9) rfl d_M_exchange_8 ?_
  refine lv_iload_n hx hb d_M_exchange_11 rfl (lv_at hl 2 rfl) ?_
  refine lv_aload_n hx hb d_M_exchange_12 rfl (lv_at hl 1 rfl) ?_
  refine va_get (D := D) (ci := 3) (v := .ref (a 21)) (C := R_M) (T := F_M) (N := 13) hx hb ht iC_M hown hK hP 0 rfl rfl 3 (by decide) (ht _ ix_199) (fun _ h9 => h9) rfl d_M_exchange_13 ?_
  refine lv_iload_n hx hb d_M_exchange_16 rfl (lv_at hl 2 rfl) ?_
  refine lv_iconst (v := 1) hx hb d_M_exchange_17 (by decide) ?_
  refine lv_iadd hx hb d_M_exchange_18 ?_
  obtain ⟨g_2, h⟩ := gd_some h
  refine va_iald hx hb hK hP 1 0 rfl rfl (inb_in g_2) d_M_exchange_19 ?_
  obtain ⟨g_3, h⟩ := gd_some h
  refine va_iast hx hb hK hP hD hS 1 0 rfl rfl (inb_in g_3) d_M_exchange_20 (fun H locs hP hD hS => ?_)
  have hP : va_P D classes (wM a k mh mn mc (upd ms x1.toNatClampNeg (ms (x1 + (1 : Int32)).toNatClampNeg)) ml mm mt mo mk mr my mb mf) H := hP
  have hD : va_D A (wM a k mh mn mc (upd ms x1.toNatClampNeg (ms (x1 + (1 : Int32)).toNatClampNeg)) ml mm mt mo mk mr my mb mf) := hD
  refine lv_aload_n hx hb d_M_exchange_21 rfl (lv_at hl 1 rfl) ?_
  refine va_get (D := D) (ci := 3) (v := .ref (a 21)) (C := R_M) (T := F_M) (N := 13) hx hb ht iC_M hown hK hP 0 rfl rfl 3 (by decide) (ht _ ix_199) (fun _ h9 => h9) rfl d_M_exchange_22 ?_
  refine lv_iload_n hx hb d_M_exchange_25 rfl (lv_at hl 2 rfl) ?_
  refine lv_iconst (v := 1) hx hb d_M_exchange_26 (by decide) ?_
  refine lv_iadd hx hb d_M_exchange_27 ?_
  refine lv_iload_n hx hb d_M_exchange_28 rfl (lv_at hl 0 rfl) ?_
  obtain ⟨g_4, h⟩ := gd_some h
  refine va_iast hx hb hK hP hD hS 1 0 rfl rfl (inb_in g_4) d_M_exchange_29 (fun H locs hP hD hS => ?_)
  have hP : va_P D classes (wM a k mh mn mc (upd (upd ms x1.toNatClampNeg (ms (x1 + (1 : Int32)).toNatClampNeg)) (x1 + (1 : Int32)).toNatClampNeg (ms x1.toNatClampNeg)) ml mm mt mo mk mr my mb mf) H := hP
  have hD : va_D A (wM a k mh mn mc (upd (upd ms x1.toNatClampNeg (ms (x1 + (1 : Int32)).toNatClampNeg)) (x1 + (1 : Int32)).toNatClampNeg (ms x1.toNatClampNeg)) ml mm mt mo mk mr my mb mf) := hD
  refine lv_iconst (v := 0) hx hb d_M_exchange_30 (by decide) ?_
  refine lv_istore_n (lv' := [(3, .int (0 : Int32)), (2, .int (ms x1.toNatClampNeg)), (0, .ref (a 20)), (1, .int x1)]) hx hb d_M_exchange_31 rfl hl (by decide) rfl (fun ls hl => ?_)
  exact (k_M_exchange_32_L C fu) _ _ _ _ _ h _ _ _ hP hD hS (lv_sub hl [2, 3, 0] rfl)
set_option maxRecDepth 20000 in
theorem c_M_exchange (l : Launch) (D : va_G) (a : Nat → Nat) (k : Nat → ClassId) (sz : Nat) (x1 : Int32) (mh : Int32) (mn : Int32) (mc : Int32) (ms : Nat → Int32) (ml : Nat → Int32) (mm : Nat → Int32) (mt : Nat → Int32) (mo : Nat → Int32) (mk : Int32) (mr : Nat → Int64) (my : Nat → Int32) (mb : Nat → Int64) (mf : Nat → Int32) (r : (Nat → Int32) × (Nat → Int32)) (h : F_M_exchange x1 ms ml = some r) : Met l y_M_exchange (Cond.code y_M_exchange b_M_exchange 5 none :: lw_g) (rm_M_exchange) (va_Pc [.ref (a 20), .int x1] (pcW D [(k 21, .int), (k 22, .int), (k 23, .int), (k 24, .boolean), (k 25, .boolean), (k 26, .long), (k 27, .int), (k 28, .long), (k 29, .int)] (wM a k mh mn mc ms ml mm mt mo mk mr my mb mf) sz)) (qc_M_exchange D (va_A (wM a k mh mn mc ms ml mm mt mo mk mr my mb mf) sz) a k mh mn mc mm mt mo mk mr my mb mf r) 0 0 (va_A (wM a k mh mn mc ms ml mm mt mo mk mr my mb mf) sz) := by
  refine Met.ofW (cc := b_M_exchange) (maxL := 5) (ret := none) (by decide) rfl ?_
  intro p e s m args below meth c s₁ B hml hv
  obtain ⟨rfl, hsz, hP, hK, hD0⟩ := hv
  have hts := atoms_spec (ws := Cond.code y_M_exchange b_M_exchange 5 none :: lw_g) B.pre
  subst hsz
  have hD := hD0.self (sz := s.heap.size)
  have hl := lv_entry ([.ref (a 20), .int x1]) (n := 5) (Nat.le_of_ble_eq_true rfl)
  rw [lg_entry_eq]
  generalize (lg_sl ([.ref (a 20), .int x1]) ++ List.replicate (5 - (lg_sl ([.ref (a 20), .int x1])).length) Slot.unset).toArray = ls at hl ⊢
  exact k_M_exchange_0 ⟨B.exec, B.bytes, B.returns, hml, findClass_of_methodNamed B.named, fun w hw => hts w (List.mem_cons_of_mem _ hw), B.notSynchronized, fun q h => Or.inr h, hK⟩ _ _ _ _ h _ _ _ hP hD va_S.rf hl

def rm_M_move : Room := { frames := 1, cells := 0, slots := 0, locals := 24 }
def qc_M_move (D : va_G) (A : Nat → Prop) (a : Nat → Nat) (k : Nat → ClassId) (mh : Int32) (mn : Int32) (mc : Int32) (mm : Nat → Int32) (mt : Nat → Int32) (mo : Nat → Int32) (mk : Int32) (mr : Nat → Int64) (my : Nat → Int32) (mb : Nat → Int64) (mf : Nat → Int32) (r : Int32 × (Nat → Int32) × (Nat → Int32)) : Array Value → State → Outcome → State → Prop := va_Qi (fun (r1 : Int32) (_ : Unit) => r1 = r.1) (poW D [(k 21, .int), (k 22, .int), (k 23, .int), (k 24, .boolean), (k 25, .boolean), (k 26, .long), (k 27, .int), (k 28, .long), (k 29, .int)] (wM a k mh mn mc r.2.1 r.2.2 mm mt mo mk mr my mb mf) A) A
def J_M_move_48 (rec48 : Int32 → Int32 → Int32 → (Nat → Int32) → (Nat → Int32) → Option (Int32 × (Nat → Int32) × (Nat → Int32))) (x2 : Int32) (x3 : Int32) (mn : Int32) (ms : Nat → Int32) (ml : Nat → Int32) : Option (Int32 × (Nat → Int32) × (Nat → Int32)) :=
  (if x3 < x2 then some ((1 : Int32), ms, ml) else (Option.bind (F_M_exchange x3 ms ml) (fun v_2 => rec48 x2 (x3 + (-1)) mn v_2.1 v_2.2)))
def L_M_move_48 : Nat → Int32 → Int32 → Int32 → (Nat → Int32) → (Nat → Int32) → Option (Int32 × (Nat → Int32) × (Nat → Int32))
  | 0 => fun _ _ _ _ _ => none
  | n + 1 => J_M_move_48 (L_M_move_48 n)
def J_M_move_28 (rec28 : Int32 → Int32 → Int32 → Int32 → (Nat → Int32) → (Nat → Int32) → Option (Int32 × (Nat → Int32) × (Nat → Int32))) (x1 : Int32) (x2 : Int32) (x3 : Int32) (mn : Int32) (ms : Nat → Int32) (ml : Nat → Int32) : Option (Int32 × (Nat → Int32) × (Nat → Int32)) :=
  (if x2 ≤ x3 then L_M_move_48 fu x2 (x1 - (1 : Int32)) mn ms ml else (Option.bind (F_M_exchange x3 ms ml) (fun v_2 => rec28 x1 x2 (x3 + 1) mn v_2.1 v_2.2)))
def L_M_move_28 : Nat → Int32 → Int32 → Int32 → Int32 → (Nat → Int32) → (Nat → Int32) → Option (Int32 × (Nat → Int32) × (Nat → Int32))
  | 0 => fun _ _ _ _ _ _ => none
  | n + 1 => J_M_move_28 (L_M_move_28 n)
def J_M_move_0 (x1 : Int32) (x2 : Int32) (mn : Int32) (ms : Nat → Int32) (ml : Nat → Int32) : Option (Int32 × (Nat → Int32) × (Nat → Int32)) :=
  (if x1 < 0 then some ((0 : Int32), ms, ml) else (if mn ≤ x1 then some ((0 : Int32), ms, ml) else (if x2 < 0 then some ((0 : Int32), ms, ml) else (if x2 < mn then L_M_move_28 fu x1 x2 x1 mn ms ml else some ((0 : Int32), ms, ml)))))
def F_M_move (x1 : Int32) (x2 : Int32) (mn : Int32) (ms : Nat → Int32) (ml : Nat → Int32) : Option (Int32 × (Nat → Int32) × (Nat → Int32)) := J_M_move_0 x1 x2 mn ms ml
def H_M_move_48 (p : Program) (l : Launch) (e : Env) (s : State) (m : MethodId) (args : Array Value) (below : List Frame) (meth : Method) (c : Code) (D : va_G) (A : Nat → Prop) (a : Nat → Nat) (k : Nat → ClassId) (mh : Int32) (mc : Int32) (mm : Nat → Int32) (mt : Nat → Int32) (mo : Nat → Int32) (mk : Int32) (mr : Nat → Int64) (my : Nat → Int32) (mb : Nat → Int64) (mf : Nat → Int32) (f : Int32 → Int32 → Int32 → (Nat → Int32) → (Nat → Int32) → Option (Int32 × (Nat → Int32) × (Nat → Int32))) : Prop := ∀ (x2 : Int32) (x3 : Int32) (mn : Int32) (ms : Nat → Int32) (ml : Nat → Int32) (r : Int32 × (Nat → Int32) × (Nat → Int32)), f x2 x3 mn ms ml = some r → ∀ (H : Heap) (locs : List Loc) (ls : Array Slot), va_P D classes (wM a k mh mn mc ms ml mm mt mo mk mr my mb mf) H → va_D A (wM a k mh mn mc ms ml mm mt mo mk mr my mb mf) → va_S A s.heap H locs → lv_has ls 4 [(0, .ref (a 20)), (2, .int x2), (3, .int x3)] → W p l e (rm_M_move) s m args below meth c H locs 0 0 (MQ below (qc_M_move D A a k mh mn mc mm mt mo mk mr my mb mf r) args s 0 0 A) (F0 m 48 ls [])
def H_M_move_28 (p : Program) (l : Launch) (e : Env) (s : State) (m : MethodId) (args : Array Value) (below : List Frame) (meth : Method) (c : Code) (D : va_G) (A : Nat → Prop) (a : Nat → Nat) (k : Nat → ClassId) (mh : Int32) (mc : Int32) (mm : Nat → Int32) (mt : Nat → Int32) (mo : Nat → Int32) (mk : Int32) (mr : Nat → Int64) (my : Nat → Int32) (mb : Nat → Int64) (mf : Nat → Int32) (f : Int32 → Int32 → Int32 → Int32 → (Nat → Int32) → (Nat → Int32) → Option (Int32 × (Nat → Int32) × (Nat → Int32))) : Prop := ∀ (x1 : Int32) (x2 : Int32) (x3 : Int32) (mn : Int32) (ms : Nat → Int32) (ml : Nat → Int32) (r : Int32 × (Nat → Int32) × (Nat → Int32)), f x1 x2 x3 mn ms ml = some r → ∀ (H : Heap) (locs : List Loc) (ls : Array Slot), va_P D classes (wM a k mh mn mc ms ml mm mt mo mk mr my mb mf) H → va_D A (wM a k mh mn mc ms ml mm mt mo mk mr my mb mf) → va_S A s.heap H locs → lv_has ls 4 [(0, .ref (a 20)), (1, .int x1), (2, .int x2), (3, .int x3)] → W p l e (rm_M_move) s m args below meth c H locs 0 0 (MQ below (qc_M_move D A a k mh mn mc mm mt mo mk mr my mb mf r) args s 0 0 A) (F0 m 28 ls [])
def H_M_move_0 (p : Program) (l : Launch) (e : Env) (s : State) (m : MethodId) (args : Array Value) (below : List Frame) (meth : Method) (c : Code) (D : va_G) (A : Nat → Prop) (a : Nat → Nat) (k : Nat → ClassId) (mh : Int32) (mc : Int32) (mm : Nat → Int32) (mt : Nat → Int32) (mo : Nat → Int32) (mk : Int32) (mr : Nat → Int64) (my : Nat → Int32) (mb : Nat → Int64) (mf : Nat → Int32) (f : Int32 → Int32 → Int32 → (Nat → Int32) → (Nat → Int32) → Option (Int32 × (Nat → Int32) × (Nat → Int32))) : Prop := ∀ (x1 : Int32) (x2 : Int32) (mn : Int32) (ms : Nat → Int32) (ml : Nat → Int32) (r : Int32 × (Nat → Int32) × (Nat → Int32)), f x1 x2 mn ms ml = some r → ∀ (H : Heap) (locs : List Loc) (ls : Array Slot), va_P D classes (wM a k mh mn mc ms ml mm mt mo mk mr my mb mf) H → va_D A (wM a k mh mn mc ms ml mm mt mo mk mr my mb mf) → va_S A s.heap H locs → lv_has ls 4 [(0, .ref (a 20)), (1, .int x1), (2, .int x2)] → W p l e (rm_M_move) s m args below meth c H locs 0 0 (MQ below (qc_M_move D A a k mh mn mc mm mt mo mk mr my mb mf r) args s 0 0 A) (F0 m 0 ls [])
set_option maxHeartbeats 4000000 in
set_option maxRecDepth 100000 in
theorem k_M_move_48 {p : Program} {l : Launch} {e : Env} {s : State} {m : MethodId} {args : Array Value} {below : List Frame} {meth : Method} {c : Code} {D : va_G} {A : Nat → Prop} {a : Nat → Nat} {k : Nat → ClassId} {mh : Int32} {mc : Int32} {mm : Nat → Int32} {mt : Nat → Int32} {mo : Nat → Int32} {mk : Int32} {mr : Nat → Int64} {my : Nat → Int32} {mb : Nat → Int64} {mf : Nat → Int32} {rec48 : Int32 → Int32 → Int32 → (Nat → Int32) → (Nat → Int32) → Option (Int32 × (Nat → Int32) × (Nat → Int32))} (C : cx D [(k 21, .int), (k 22, .int), (k 23, .int), (k 24, .boolean), (k 25, .boolean), (k 26, .long), (k 27, .int), (k 28, .long), (k 29, .int)] R_M b_M_move 4 (some .boolean) A p s m args meth c) (hrec48 : H_M_move_48 p l e s m args below meth c D A a k mh mc mm mt mo mk mr my mb mf rec48) : H_M_move_48 p l e s m args below meth c D A a k mh mc mm mt mo mk mr my mb mf (J_M_move_48 rec48) := by
  obtain ⟨hx, hb, hr, hml, hown, ht, hlk, hA, hK⟩ := id C
  intro x2 x3 mn ms ml r h H locs ls hP hD hS hl
  unfold J_M_move_48 at h
  refine lv_iload_n hx hb d_M_move_48 rfl (lv_at hl 2 rfl) ?_
  refine lv_iload_n hx hb d_M_move_49 rfl (lv_at hl 1 rfl) ?_
  refine lv_icmp_lt (tgt := 64) hx hb d_M_move_50 (by decide) (fun c_1 => ?_) (fun c_1 => ?_)
  · have h := ite_T c_1 h
    refine lv_iconst (v := 1) hx hb d_M_move_64 (by decide) ?_
    cases h
    exact W.zret hx hb hr rfl (fun t ht hW => ⟨⟨_, (), rfl, rfl, by rw [ht]; exact hP, va_K.moved hW.alike hK, hD⟩, hS.F ht⟩) hS.2.2 d_M_move_65 hlk
  · have h := ite_F c_1 h
    refine lv_aload_n hx hb d_M_move_53 rfl (lv_at hl 0 rfl) ?_
    refine lv_iload_n hx hb d_M_move_54 rfl (lv_at hl 2 rfl) ?_
    obtain ⟨v_2, e_2, h⟩ := bd_some h
    refine go_Vv (As := [.int x3]) (rest := []) (wc := (wM a k mh mn mc ms ml mm mt mo mk mr my mb mf)) (wr := []) (w1 := (wM a k mh mn mc v_2.1 v_2.2 mm mt mo mk mr my mb mf)) (w2 := (wM a k mh mn mc v_2.1 v_2.2 mm mt mo mk mr my mb mf)) (tc := [(k 21, .int), (k 22, .int), (k 23, .int), (k 24, .boolean), (k 25, .boolean), (k 26, .long), (k 27, .int), (k 28, .long), (k 29, .int)]) hx hb hml hown ht (c_M_exchange l D a k H.size x3 mh mn mc ms ml mm mt mo mk mr my mb mf v_2 e_2) g_M_109 ⟨rfl, rfl⟩ (n := 1) (by decide +kernel) ⟨(Nat.le_of_ble_eq_true rfl), (Nat.le_of_ble_eq_true rfl)⟩ hP hD hK hS hA ⟨Nat.zero_le _, Nat.zero_le _⟩ [0, 1, 2, 3, 4, 5, 6, 7, 8, 9] [] [0, 1, 2, 3, 4, 5, 6, 7, 8] [0, 1, 2, 3, 4, 5, 6, 7, 8, 9] rfl rfl rfl rfl (by decide) (by decide) (by decide) rfl (by decide) 0 rfl rfl rfl rfl rfl hl.1 (Nat.le_of_ble_eq_true rfl) d_M_move_55 (fun H locs hP hD hS => ?_)
    refine lv_iinc (v := x3 + (-1)) (lv' := [(3, .int (x3 + (-1))), (0, .ref (a 20)), (2, .int x2)]) hx hb d_M_move_58 hl (k := 2) rfl rfl (by decide) rfl (fun ls hl => ?_)
    refine lv_goto (tgt := 48) hx hb d_M_move_61 (by decide) ?_
    exact hrec48 _ _ _ _ _ _ h _ _ _ hP hD hS (lv_sub hl [1, 2, 0] rfl)
theorem k_M_move_48_L {p : Program} {l : Launch} {e : Env} {s : State} {m : MethodId} {args : Array Value} {below : List Frame} {meth : Method} {c : Code} {D : va_G} {A : Nat → Prop} {a : Nat → Nat} {k : Nat → ClassId} {mh : Int32} {mc : Int32} {mm : Nat → Int32} {mt : Nat → Int32} {mo : Nat → Int32} {mk : Int32} {mr : Nat → Int64} {my : Nat → Int32} {mb : Nat → Int64} {mf : Nat → Int32} (C : cx D [(k 21, .int), (k 22, .int), (k 23, .int), (k 24, .boolean), (k 25, .boolean), (k 26, .long), (k 27, .int), (k 28, .long), (k 29, .int)] R_M b_M_move 4 (some .boolean) A p s m args meth c) : ∀ n : Nat, H_M_move_48 p l e s m args below meth c D A a k mh mc mm mt mo mk mr my mb mf (L_M_move_48 n)
  | 0 => fun _ _ _ _ _ _ h => nomatch h
  | n + 1 => k_M_move_48 C (k_M_move_48_L C n)
set_option maxHeartbeats 4000000 in
set_option maxRecDepth 100000 in
theorem k_M_move_28 {p : Program} {l : Launch} {e : Env} {s : State} {m : MethodId} {args : Array Value} {below : List Frame} {meth : Method} {c : Code} {D : va_G} {A : Nat → Prop} {a : Nat → Nat} {k : Nat → ClassId} {mh : Int32} {mc : Int32} {mm : Nat → Int32} {mt : Nat → Int32} {mo : Nat → Int32} {mk : Int32} {mr : Nat → Int64} {my : Nat → Int32} {mb : Nat → Int64} {mf : Nat → Int32} {rec28 : Int32 → Int32 → Int32 → Int32 → (Nat → Int32) → (Nat → Int32) → Option (Int32 × (Nat → Int32) × (Nat → Int32))} (C : cx D [(k 21, .int), (k 22, .int), (k 23, .int), (k 24, .boolean), (k 25, .boolean), (k 26, .long), (k 27, .int), (k 28, .long), (k 29, .int)] R_M b_M_move 4 (some .boolean) A p s m args meth c) (hrec28 : H_M_move_28 p l e s m args below meth c D A a k mh mc mm mt mo mk mr my mb mf rec28) : H_M_move_28 p l e s m args below meth c D A a k mh mc mm mt mo mk mr my mb mf (J_M_move_28 rec28) := by
  obtain ⟨hx, hb, hr, hml, hown, ht, hlk, hA, hK⟩ := id C
  intro x1 x2 x3 mn ms ml r h H locs ls hP hD hS hl
  unfold J_M_move_28 at h
  refine lv_iload_n hx hb d_M_move_28 rfl (lv_at hl 3 rfl) ?_
  refine lv_iload_n hx hb d_M_move_29 rfl (lv_at hl 2 rfl) ?_
  refine lv_icmp_ge (tgt := 44) hx hb d_M_move_30 (by decide) (fun c_1 => ?_) (fun c_1 => ?_)
  · have h := ite_T c_1 h
    refine lv_iload_n hx hb d_M_move_44 rfl (lv_at hl 1 rfl) ?_
    refine lv_iconst (v := 1) hx hb d_M_move_45 (by decide) ?_
    refine lv_isub hx hb d_M_move_46 ?_
    refine lv_istore_n (lv' := [(3, .int (x1 - (1 : Int32))), (0, .ref (a 20)), (1, .int x1), (2, .int x2)]) hx hb d_M_move_47 rfl hl (by decide) rfl (fun ls hl => ?_)
    exact (k_M_move_48_L C fu) _ _ _ _ _ _ h _ _ _ hP hD hS (lv_sub hl [1, 3, 0] rfl)
  · have h := ite_F c_1 h
    refine lv_aload_n hx hb d_M_move_33 rfl (lv_at hl 0 rfl) ?_
    refine lv_iload_n hx hb d_M_move_34 rfl (lv_at hl 3 rfl) ?_
    obtain ⟨v_2, e_2, h⟩ := bd_some h
    refine go_Vv (As := [.int x3]) (rest := []) (wc := (wM a k mh mn mc ms ml mm mt mo mk mr my mb mf)) (wr := []) (w1 := (wM a k mh mn mc v_2.1 v_2.2 mm mt mo mk mr my mb mf)) (w2 := (wM a k mh mn mc v_2.1 v_2.2 mm mt mo mk mr my mb mf)) (tc := [(k 21, .int), (k 22, .int), (k 23, .int), (k 24, .boolean), (k 25, .boolean), (k 26, .long), (k 27, .int), (k 28, .long), (k 29, .int)]) hx hb hml hown ht (c_M_exchange l D a k H.size x3 mh mn mc ms ml mm mt mo mk mr my mb mf v_2 e_2) g_M_109 ⟨rfl, rfl⟩ (n := 1) (by decide +kernel) ⟨(Nat.le_of_ble_eq_true rfl), (Nat.le_of_ble_eq_true rfl)⟩ hP hD hK hS hA ⟨Nat.zero_le _, Nat.zero_le _⟩ [0, 1, 2, 3, 4, 5, 6, 7, 8, 9] [] [0, 1, 2, 3, 4, 5, 6, 7, 8] [0, 1, 2, 3, 4, 5, 6, 7, 8, 9] rfl rfl rfl rfl (by decide) (by decide) (by decide) rfl (by decide) 0 rfl rfl rfl rfl rfl hl.1 (Nat.le_of_ble_eq_true rfl) d_M_move_35 (fun H locs hP hD hS => ?_)
    refine lv_iinc (v := x3 + 1) (lv' := [(3, .int (x3 + 1)), (0, .ref (a 20)), (1, .int x1), (2, .int x2)]) hx hb d_M_move_38 hl (k := 3) rfl rfl (by decide) rfl (fun ls hl => ?_)
    refine lv_goto (tgt := 28) hx hb d_M_move_41 (by decide) ?_
    exact hrec28 _ _ _ _ _ _ _ h _ _ _ hP hD hS (lv_sub hl [1, 2, 3, 0] rfl)
theorem k_M_move_28_L {p : Program} {l : Launch} {e : Env} {s : State} {m : MethodId} {args : Array Value} {below : List Frame} {meth : Method} {c : Code} {D : va_G} {A : Nat → Prop} {a : Nat → Nat} {k : Nat → ClassId} {mh : Int32} {mc : Int32} {mm : Nat → Int32} {mt : Nat → Int32} {mo : Nat → Int32} {mk : Int32} {mr : Nat → Int64} {my : Nat → Int32} {mb : Nat → Int64} {mf : Nat → Int32} (C : cx D [(k 21, .int), (k 22, .int), (k 23, .int), (k 24, .boolean), (k 25, .boolean), (k 26, .long), (k 27, .int), (k 28, .long), (k 29, .int)] R_M b_M_move 4 (some .boolean) A p s m args meth c) : ∀ n : Nat, H_M_move_28 p l e s m args below meth c D A a k mh mc mm mt mo mk mr my mb mf (L_M_move_28 n)
  | 0 => fun _ _ _ _ _ _ _ h => nomatch h
  | n + 1 => k_M_move_28 C (k_M_move_28_L C n)
set_option maxHeartbeats 4000000 in
set_option maxRecDepth 100000 in
theorem k_M_move_0 {p : Program} {l : Launch} {e : Env} {s : State} {m : MethodId} {args : Array Value} {below : List Frame} {meth : Method} {c : Code} {D : va_G} {A : Nat → Prop} {a : Nat → Nat} {k : Nat → ClassId} {mh : Int32} {mc : Int32} {mm : Nat → Int32} {mt : Nat → Int32} {mo : Nat → Int32} {mk : Int32} {mr : Nat → Int64} {my : Nat → Int32} {mb : Nat → Int64} {mf : Nat → Int32} (C : cx D [(k 21, .int), (k 22, .int), (k 23, .int), (k 24, .boolean), (k 25, .boolean), (k 26, .long), (k 27, .int), (k 28, .long), (k 29, .int)] R_M b_M_move 4 (some .boolean) A p s m args meth c) : H_M_move_0 p l e s m args below meth c D A a k mh mc mm mt mo mk mr my mb mf (J_M_move_0) := by
  obtain ⟨hx, hb, hr, hml, hown, ht, hlk, hA, hK⟩ := id C
  intro x1 x2 mn ms ml r h H locs ls hP hD hS hl
  unfold J_M_move_0 at h
  refine lv_iload_n hx hb d_M_move_0 rfl (lv_at hl 1 rfl) ?_
  refine lv_if_lt (tgt := 24) hx hb d_M_move_1 (by decide) (fun c_1 => ?_) (fun c_1 => ?_)
  · have h := ite_T c_1 h
    refine lv_iconst (v := 0) hx hb d_M_move_24 (by decide) ?_
    cases h
    exact W.zret hx hb hr rfl (fun t ht hW => ⟨⟨_, (), rfl, rfl, by rw [ht]; exact hP, va_K.moved hW.alike hK, hD⟩, hS.F ht⟩) hS.2.2 d_M_move_25 hlk
  · have h := ite_F c_1 h
    refine lv_iload_n hx hb d_M_move_4 rfl (lv_at hl 1 rfl) ?_
    refine lv_aload_n hx hb d_M_move_5 rfl (lv_at hl 0 rfl) ?_
    refine va_get (D := D) (ci := 3) (v := .int mn) (C := R_M) (T := F_M) (N := 13) hx hb ht iC_M hown hK hP 0 rfl rfl 1 (by decide) (ht _ ix_163) (fun _ h9 => h9) rfl d_M_move_6 ?_
    refine lv_icmp_ge (tgt := 24) hx hb d_M_move_9 (by decide) (fun c_2 => ?_) (fun c_2 => ?_)
    · have h := ite_T c_2 h
      refine lv_iconst (v := 0) hx hb d_M_move_24 (by decide) ?_
      cases h
      exact W.zret hx hb hr rfl (fun t ht hW => ⟨⟨_, (), rfl, rfl, by rw [ht]; exact hP, va_K.moved hW.alike hK, hD⟩, hS.F ht⟩) hS.2.2 d_M_move_25 hlk
    · have h := ite_F c_2 h
      refine lv_iload_n hx hb d_M_move_12 rfl (lv_at hl 2 rfl) ?_
      refine lv_if_lt (tgt := 24) hx hb d_M_move_13 (by decide) (fun c_3 => ?_) (fun c_3 => ?_)
      · have h := ite_T c_3 h
        refine lv_iconst (v := 0) hx hb d_M_move_24 (by decide) ?_
        cases h
        exact W.zret hx hb hr rfl (fun t ht hW => ⟨⟨_, (), rfl, rfl, by rw [ht]; exact hP, va_K.moved hW.alike hK, hD⟩, hS.F ht⟩) hS.2.2 d_M_move_25 hlk
      · have h := ite_F c_3 h
        refine lv_iload_n hx hb d_M_move_16 rfl (lv_at hl 2 rfl) ?_
        refine lv_aload_n hx hb d_M_move_17 rfl (lv_at hl 0 rfl) ?_
        refine va_get (D := D) (ci := 3) (v := .int mn) (C := R_M) (T := F_M) (N := 13) hx hb ht iC_M hown hK hP 0 rfl rfl 1 (by decide) (ht _ ix_163) (fun _ h9 => h9) rfl d_M_move_18 ?_
        refine lv_icmp_lt (tgt := 26) hx hb d_M_move_21 (by decide) (fun c_4 => ?_) (fun c_4 => ?_)
        · have h := ite_T c_4 h
          refine lv_iload_n hx hb d_M_move_26 rfl (lv_at hl 1 rfl) ?_
          refine lv_istore_n (lv' := [(3, .int x1), (0, .ref (a 20)), (1, .int x1), (2, .int x2)]) hx hb d_M_move_27 rfl hl (by decide) rfl (fun ls hl => ?_)
          exact (k_M_move_28_L C fu) _ _ _ _ _ _ _ h _ _ _ hP hD hS (lv_sub hl [1, 2, 3, 0] rfl)
        · have h := ite_F c_4 h
          refine lv_iconst (v := 0) hx hb d_M_move_24 (by decide) ?_
          cases h
          exact W.zret hx hb hr rfl (fun t ht hW => ⟨⟨_, (), rfl, rfl, by rw [ht]; exact hP, va_K.moved hW.alike hK, hD⟩, hS.F ht⟩) hS.2.2 d_M_move_25 hlk
set_option maxRecDepth 20000 in
theorem c_M_move (l : Launch) (D : va_G) (a : Nat → Nat) (k : Nat → ClassId) (sz : Nat) (x1 : Int32) (x2 : Int32) (mh : Int32) (mn : Int32) (mc : Int32) (ms : Nat → Int32) (ml : Nat → Int32) (mm : Nat → Int32) (mt : Nat → Int32) (mo : Nat → Int32) (mk : Int32) (mr : Nat → Int64) (my : Nat → Int32) (mb : Nat → Int64) (mf : Nat → Int32) (r : Int32 × (Nat → Int32) × (Nat → Int32)) (h : F_M_move x1 x2 mn ms ml = some r) : Met l y_M_move (Cond.code y_M_move b_M_move 4 (some .boolean) :: lw_g) (rm_M_move) (va_Pc [.ref (a 20), .int x1, .int x2] (pcW D [(k 21, .int), (k 22, .int), (k 23, .int), (k 24, .boolean), (k 25, .boolean), (k 26, .long), (k 27, .int), (k 28, .long), (k 29, .int)] (wM a k mh mn mc ms ml mm mt mo mk mr my mb mf) sz)) (qc_M_move D (va_A (wM a k mh mn mc ms ml mm mt mo mk mr my mb mf) sz) a k mh mn mc mm mt mo mk mr my mb mf r) 0 0 (va_A (wM a k mh mn mc ms ml mm mt mo mk mr my mb mf) sz) := by
  refine Met.ofW (cc := b_M_move) (maxL := 4) (ret := (some .boolean)) (by decide) rfl ?_
  intro p e s m args below meth c s₁ B hml hv
  obtain ⟨rfl, hsz, hP, hK, hD0⟩ := hv
  have hts := atoms_spec (ws := Cond.code y_M_move b_M_move 4 (some .boolean) :: lw_g) B.pre
  subst hsz
  have hD := hD0.self (sz := s.heap.size)
  have hl := lv_entry ([.ref (a 20), .int x1, .int x2]) (n := 4) (Nat.le_of_ble_eq_true rfl)
  rw [lg_entry_eq]
  generalize (lg_sl ([.ref (a 20), .int x1, .int x2]) ++ List.replicate (4 - (lg_sl ([.ref (a 20), .int x1, .int x2])).length) Slot.unset).toArray = ls at hl ⊢
  exact k_M_move_0 ⟨B.exec, B.bytes, B.returns, hml, findClass_of_methodNamed B.named, fun w hw => hts w (List.mem_cons_of_mem _ hw), B.notSynchronized, fun q h => Or.inr h, hK⟩ _ _ _ _ _ _ h _ _ _ hP hD va_S.rf hl

def rm_M_crossing : Room := { frames := 0, cells := 0, slots := 0, locals := 0 }
def qc_M_crossing (D : va_G) (A : Nat → Prop) (a : Nat → Nat) (k : Nat → ClassId) (mh : Int32) (mc : Int32) (mm : Nat → Int32) (mt : Nat → Int32) (mo : Nat → Int32) (mr : Nat → Int64) (my : Nat → Int32) (mb : Nat → Int64) (mf : Nat → Int32) (r : Int32 × Int32 × (Nat → Int32) × (Nat → Int32) × Int32) : Array Value → State → Outcome → State → Prop := va_Qi (fun (r1 : Int32) (_ : Unit) => r1 = r.1) (poW D [(k 21, .int), (k 22, .int), (k 23, .int), (k 24, .boolean), (k 25, .boolean), (k 26, .long), (k 27, .int), (k 28, .long), (k 29, .int)] (wM a k mh r.2.1 mc r.2.2.1 r.2.2.2.1 mm mt mo r.2.2.2.2 mr my mb mf) A) A
def J_M_crossing_61 (x1 : Int32) (x2 : Int32) (x3 : Int32) (x4 : Int32) (x5 : Int32) (x6 : Int32) (mn : Int32) (ms : Nat → Int32) (ml : Nat → Int32) (mk : Int32) : Option (Int32 × Int32 × (Nat → Int32) × (Nat → Int32) × Int32) :=
  (if x6 = 0 then some ((-1 : Int32), mn, ms, ml, mk) else (if mn = (10 : Int32) then some ((-1 : Int32), mn, ms, ml, mk) else (if inb mn 10 then (if inb ((4 : Int32) * mn) 40 then (if inb (((4 : Int32) * mn) + (1 : Int32)) 40 then (if inb (((4 : Int32) * mn) + (2 : Int32)) 40 then (if inb (((4 : Int32) * mn) + (3 : Int32)) 40 then some ((mn + (1 : Int32)), (mn + (1 : Int32)), (upd ms mn.toNatClampNeg x1), (upd (upd (upd (upd ml ((4 : Int32) * mn).toNatClampNeg x2) (((4 : Int32) * mn) + (1 : Int32)).toNatClampNeg x3) (((4 : Int32) * mn) + (2 : Int32)).toNatClampNeg x4) (((4 : Int32) * mn) + (3 : Int32)).toNatClampNeg x5), (0 : Int32)) else none) else none) else none) else none) else none)))
def J_M_crossing_49 (x1 : Int32) (x2 : Int32) (x3 : Int32) (x4 : Int32) (x5 : Int32) (y0 : Int32) (mn : Int32) (ms : Nat → Int32) (ml : Nat → Int32) (mk : Int32) : Option (Int32 × Int32 × (Nat → Int32) × (Nat → Int32) × Int32) :=
  (if x1 = (1 : Int32) then J_M_crossing_61 x1 x2 x3 x4 x5 y0 mn ms ml mk else (if x1 = (-1 : Int32) then J_M_crossing_61 x1 x2 x3 x4 x5 y0 mn ms ml mk else some ((-1 : Int32), mn, ms, ml, mk)))
def J_M_crossing_48 (x1 : Int32) (x2 : Int32) (x3 : Int32) (x4 : Int32) (x5 : Int32) (mn : Int32) (ms : Nat → Int32) (ml : Nat → Int32) (mk : Int32) : Option (Int32 × Int32 × (Nat → Int32) × (Nat → Int32) × Int32) :=
  J_M_crossing_49 x1 x2 x3 x4 x5 (0 : Int32) mn ms ml mk
def J_M_crossing_0 (x1 : Int32) (x2 : Int32) (x3 : Int32) (x4 : Int32) (x5 : Int32) (mn : Int32) (ms : Nat → Int32) (ml : Nat → Int32) (mk : Int32) : Option (Int32 × Int32 × (Nat → Int32) × (Nat → Int32) × Int32) :=
  (if x2 ≤ 0 then J_M_crossing_48 x1 x2 x3 x4 x5 mn ms ml mk else (if (100 : Int32) ≤ x2 then J_M_crossing_48 x1 x2 x3 x4 x5 mn ms ml mk else (if x3 ≤ 0 then J_M_crossing_48 x1 x2 x3 x4 x5 mn ms ml mk else (if (100 : Int32) ≤ x3 then J_M_crossing_48 x1 x2 x3 x4 x5 mn ms ml mk else (if x4 ≤ 0 then J_M_crossing_48 x1 x2 x3 x4 x5 mn ms ml mk else (if (100 : Int32) ≤ x4 then J_M_crossing_48 x1 x2 x3 x4 x5 mn ms ml mk else (if x5 ≤ 0 then J_M_crossing_48 x1 x2 x3 x4 x5 mn ms ml mk else (if (100 : Int32) ≤ x5 then J_M_crossing_48 x1 x2 x3 x4 x5 mn ms ml mk else J_M_crossing_49 x1 x2 x3 x4 x5 (1 : Int32) mn ms ml mk))))))))
def F_M_crossing (x1 : Int32) (x2 : Int32) (x3 : Int32) (x4 : Int32) (x5 : Int32) (mn : Int32) (ms : Nat → Int32) (ml : Nat → Int32) (mk : Int32) : Option (Int32 × Int32 × (Nat → Int32) × (Nat → Int32) × Int32) := J_M_crossing_0 x1 x2 x3 x4 x5 mn ms ml mk
def H_M_crossing_61 (p : Program) (l : Launch) (e : Env) (s : State) (m : MethodId) (args : Array Value) (below : List Frame) (meth : Method) (c : Code) (D : va_G) (A : Nat → Prop) (a : Nat → Nat) (k : Nat → ClassId) (mh : Int32) (mc : Int32) (mm : Nat → Int32) (mt : Nat → Int32) (mo : Nat → Int32) (mr : Nat → Int64) (my : Nat → Int32) (mb : Nat → Int64) (mf : Nat → Int32) (f : Int32 → Int32 → Int32 → Int32 → Int32 → Int32 → Int32 → (Nat → Int32) → (Nat → Int32) → Int32 → Option (Int32 × Int32 × (Nat → Int32) × (Nat → Int32) × Int32)) : Prop := ∀ (x1 : Int32) (x2 : Int32) (x3 : Int32) (x4 : Int32) (x5 : Int32) (x6 : Int32) (mn : Int32) (ms : Nat → Int32) (ml : Nat → Int32) (mk : Int32) (r : Int32 × Int32 × (Nat → Int32) × (Nat → Int32) × Int32), f x1 x2 x3 x4 x5 x6 mn ms ml mk = some r → ∀ (H : Heap) (locs : List Loc) (ls : Array Slot), va_P D classes (wM a k mh mn mc ms ml mm mt mo mk mr my mb mf) H → va_D A (wM a k mh mn mc ms ml mm mt mo mk mr my mb mf) → va_S A s.heap H locs → lv_has ls 7 [(0, .ref (a 20)), (1, .int x1), (2, .int x2), (3, .int x3), (4, .int x4), (5, .int x5), (6, .int x6)] → W p l e (rm_M_crossing) s m args below meth c H locs 0 0 (MQ below (qc_M_crossing D A a k mh mc mm mt mo mr my mb mf r) args s 0 0 A) (F0 m 61 ls [])
def H_M_crossing_49 (p : Program) (l : Launch) (e : Env) (s : State) (m : MethodId) (args : Array Value) (below : List Frame) (meth : Method) (c : Code) (D : va_G) (A : Nat → Prop) (a : Nat → Nat) (k : Nat → ClassId) (mh : Int32) (mc : Int32) (mm : Nat → Int32) (mt : Nat → Int32) (mo : Nat → Int32) (mr : Nat → Int64) (my : Nat → Int32) (mb : Nat → Int64) (mf : Nat → Int32) (f : Int32 → Int32 → Int32 → Int32 → Int32 → Int32 → Int32 → (Nat → Int32) → (Nat → Int32) → Int32 → Option (Int32 × Int32 × (Nat → Int32) × (Nat → Int32) × Int32)) : Prop := ∀ (x1 : Int32) (x2 : Int32) (x3 : Int32) (x4 : Int32) (x5 : Int32) (y0 : Int32) (mn : Int32) (ms : Nat → Int32) (ml : Nat → Int32) (mk : Int32) (r : Int32 × Int32 × (Nat → Int32) × (Nat → Int32) × Int32), f x1 x2 x3 x4 x5 y0 mn ms ml mk = some r → ∀ (H : Heap) (locs : List Loc) (ls : Array Slot), va_P D classes (wM a k mh mn mc ms ml mm mt mo mk mr my mb mf) H → va_D A (wM a k mh mn mc ms ml mm mt mo mk mr my mb mf) → va_S A s.heap H locs → lv_has ls 7 [(0, .ref (a 20)), (1, .int x1), (2, .int x2), (3, .int x3), (4, .int x4), (5, .int x5)] → W p l e (rm_M_crossing) s m args below meth c H locs 0 0 (MQ below (qc_M_crossing D A a k mh mc mm mt mo mr my mb mf r) args s 0 0 A) (F0 m 49 ls [.int y0])
def H_M_crossing_48 (p : Program) (l : Launch) (e : Env) (s : State) (m : MethodId) (args : Array Value) (below : List Frame) (meth : Method) (c : Code) (D : va_G) (A : Nat → Prop) (a : Nat → Nat) (k : Nat → ClassId) (mh : Int32) (mc : Int32) (mm : Nat → Int32) (mt : Nat → Int32) (mo : Nat → Int32) (mr : Nat → Int64) (my : Nat → Int32) (mb : Nat → Int64) (mf : Nat → Int32) (f : Int32 → Int32 → Int32 → Int32 → Int32 → Int32 → (Nat → Int32) → (Nat → Int32) → Int32 → Option (Int32 × Int32 × (Nat → Int32) × (Nat → Int32) × Int32)) : Prop := ∀ (x1 : Int32) (x2 : Int32) (x3 : Int32) (x4 : Int32) (x5 : Int32) (mn : Int32) (ms : Nat → Int32) (ml : Nat → Int32) (mk : Int32) (r : Int32 × Int32 × (Nat → Int32) × (Nat → Int32) × Int32), f x1 x2 x3 x4 x5 mn ms ml mk = some r → ∀ (H : Heap) (locs : List Loc) (ls : Array Slot), va_P D classes (wM a k mh mn mc ms ml mm mt mo mk mr my mb mf) H → va_D A (wM a k mh mn mc ms ml mm mt mo mk mr my mb mf) → va_S A s.heap H locs → lv_has ls 7 [(0, .ref (a 20)), (1, .int x1), (2, .int x2), (3, .int x3), (4, .int x4), (5, .int x5)] → W p l e (rm_M_crossing) s m args below meth c H locs 0 0 (MQ below (qc_M_crossing D A a k mh mc mm mt mo mr my mb mf r) args s 0 0 A) (F0 m 48 ls [])
def H_M_crossing_0 (p : Program) (l : Launch) (e : Env) (s : State) (m : MethodId) (args : Array Value) (below : List Frame) (meth : Method) (c : Code) (D : va_G) (A : Nat → Prop) (a : Nat → Nat) (k : Nat → ClassId) (mh : Int32) (mc : Int32) (mm : Nat → Int32) (mt : Nat → Int32) (mo : Nat → Int32) (mr : Nat → Int64) (my : Nat → Int32) (mb : Nat → Int64) (mf : Nat → Int32) (f : Int32 → Int32 → Int32 → Int32 → Int32 → Int32 → (Nat → Int32) → (Nat → Int32) → Int32 → Option (Int32 × Int32 × (Nat → Int32) × (Nat → Int32) × Int32)) : Prop := ∀ (x1 : Int32) (x2 : Int32) (x3 : Int32) (x4 : Int32) (x5 : Int32) (mn : Int32) (ms : Nat → Int32) (ml : Nat → Int32) (mk : Int32) (r : Int32 × Int32 × (Nat → Int32) × (Nat → Int32) × Int32), f x1 x2 x3 x4 x5 mn ms ml mk = some r → ∀ (H : Heap) (locs : List Loc) (ls : Array Slot), va_P D classes (wM a k mh mn mc ms ml mm mt mo mk mr my mb mf) H → va_D A (wM a k mh mn mc ms ml mm mt mo mk mr my mb mf) → va_S A s.heap H locs → lv_has ls 7 [(0, .ref (a 20)), (1, .int x1), (2, .int x2), (3, .int x3), (4, .int x4), (5, .int x5)] → W p l e (rm_M_crossing) s m args below meth c H locs 0 0 (MQ below (qc_M_crossing D A a k mh mc mm mt mo mr my mb mf r) args s 0 0 A) (F0 m 0 ls [])
set_option maxHeartbeats 4000000 in
set_option maxRecDepth 100000 in
theorem k_M_crossing_61 {p : Program} {l : Launch} {e : Env} {s : State} {m : MethodId} {args : Array Value} {below : List Frame} {meth : Method} {c : Code} {D : va_G} {A : Nat → Prop} {a : Nat → Nat} {k : Nat → ClassId} {mh : Int32} {mc : Int32} {mm : Nat → Int32} {mt : Nat → Int32} {mo : Nat → Int32} {mr : Nat → Int64} {my : Nat → Int32} {mb : Nat → Int64} {mf : Nat → Int32} (C : cx D [(k 21, .int), (k 22, .int), (k 23, .int), (k 24, .boolean), (k 25, .boolean), (k 26, .long), (k 27, .int), (k 28, .long), (k 29, .int)] R_M b_M_crossing 7 (some .int) A p s m args meth c) : H_M_crossing_61 p l e s m args below meth c D A a k mh mc mm mt mo mr my mb mf (J_M_crossing_61) := by
  obtain ⟨hx, hb, hr, hml, hown, ht, hlk, hA, hK⟩ := id C
  intro x1 x2 x3 x4 x5 x6 mn ms ml mk r h H locs ls hP hD hS hl
  unfold J_M_crossing_61 at h
  refine lv_iload hx hb d_M_crossing_61 (lv_at hl 6 rfl) ?_
  refine lv_if_eq (tgt := 75) hx hb d_M_crossing_63 (by decide) (fun c_1 => ?_) (fun c_1 => ?_)
  · have h := ite_T c_1 h
    refine lv_iconst (v := (-1)) hx hb d_M_crossing_75 (by decide) ?_
    cases h
    exact W.iret hx hb hr (fun t ht hW => ⟨⟨_, (), rfl, rfl, by rw [ht]; exact hP, va_K.moved hW.alike hK, hD⟩, hS.F ht⟩) hS.2.2 d_M_crossing_76 hlk
  · have h := ite_F c_1 h
    refine lv_aload_n hx hb d_M_crossing_66 rfl (lv_at hl 0 rfl) ?_
    refine va_get (D := D) (ci := 3) (v := .int mn) (C := R_M) (T := F_M) (N := 13) hx hb ht iC_M hown hK hP 0 rfl rfl 1 (by decide) (ht _ ix_163) (fun _ h9 => h9) rfl d_M_crossing_67 ?_
    refine lv_bipush (v := 10) hx hb d_M_crossing_70 (by decide) ?_
    refine lv_icmp_ne (tgt := 77) hx hb d_M_crossing_72 (by decide) (fun c_2 => ?_) (fun c_2 => ?_)
    · have h := ite_F c_2 h
      refine lv_aload_n hx hb d_M_crossing_77 rfl (lv_at hl 0 rfl) ?_
      refine va_get (D := D) (ci := 3) (v := .ref (a 21)) (C := R_M) (T := F_M) (N := 13) hx hb ht iC_M hown hK hP 0 rfl rfl 3 (by decide) (ht _ ix_199) (fun _ h9 => h9) rfl d_M_crossing_78 ?_
      refine lv_aload_n hx hb d_M_crossing_81 rfl (lv_at hl 0 rfl) ?_
      refine va_get (D := D) (ci := 3) (v := .int mn) (C := R_M) (T := F_M) (N := 13) hx hb ht iC_M hown hK hP 0 rfl rfl 1 (by decide) (ht _ ix_163) (fun _ h9 => h9) rfl d_M_crossing_82 ?_
      refine lv_iload_n hx hb d_M_crossing_85 rfl (lv_at hl 1 rfl) ?_
      obtain ⟨g_3, h⟩ := gd_some h
      refine va_iast hx hb hK hP hD hS 1 0 rfl rfl (inb_in g_3) d_M_crossing_86 (fun H locs hP hD hS => ?_)
      have hP : va_P D classes (wM a k mh mn mc (upd ms mn.toNatClampNeg x1) ml mm mt mo mk mr my mb mf) H := hP
      have hD : va_D A (wM a k mh mn mc (upd ms mn.toNatClampNeg x1) ml mm mt mo mk mr my mb mf) := hD
      refine lv_aload_n hx hb d_M_crossing_87 rfl (lv_at hl 0 rfl) ?_
      refine va_get (D := D) (ci := 3) (v := .ref (a 22)) (C := R_M) (T := F_M) (N := 13) hx hb ht iC_M hown hK hP 0 rfl rfl 4 (by decide) (ht _ ix_164) (fun _ h9 => h9) rfl d_M_crossing_88 ?_
      refine lv_iconst (v := 4) hx hb d_M_crossing_91 (by decide) ?_
      refine lv_aload_n hx hb d_M_crossing_92 rfl (lv_at hl 0 rfl) ?_
      refine va_get (D := D) (ci := 3) (v := .int mn) (C := R_M) (T := F_M) (N := 13) hx hb ht iC_M hown hK hP 0 rfl rfl 1 (by decide) (ht _ ix_163) (fun _ h9 => h9) rfl d_M_crossing_93 ?_
      refine lv_imul hx hb d_M_crossing_96 ?_
      refine lv_iload_n hx hb d_M_crossing_97 rfl (lv_at hl 2 rfl) ?_
      obtain ⟨g_4, h⟩ := gd_some h
      refine va_iast hx hb hK hP hD hS 2 1 rfl rfl (inb_in g_4) d_M_crossing_98 (fun H locs hP hD hS => ?_)
      have hP : va_P D classes (wM a k mh mn mc (upd ms mn.toNatClampNeg x1) (upd ml ((4 : Int32) * mn).toNatClampNeg x2) mm mt mo mk mr my mb mf) H := hP
      have hD : va_D A (wM a k mh mn mc (upd ms mn.toNatClampNeg x1) (upd ml ((4 : Int32) * mn).toNatClampNeg x2) mm mt mo mk mr my mb mf) := hD
      refine lv_aload_n hx hb d_M_crossing_99 rfl (lv_at hl 0 rfl) ?_
      refine va_get (D := D) (ci := 3) (v := .ref (a 22)) (C := R_M) (T := F_M) (N := 13) hx hb ht iC_M hown hK hP 0 rfl rfl 4 (by decide) (ht _ ix_164) (fun _ h9 => h9) rfl d_M_crossing_100 ?_
      refine lv_iconst (v := 4) hx hb d_M_crossing_103 (by decide) ?_
      refine lv_aload_n hx hb d_M_crossing_104 rfl (lv_at hl 0 rfl) ?_
      refine va_get (D := D) (ci := 3) (v := .int mn) (C := R_M) (T := F_M) (N := 13) hx hb ht iC_M hown hK hP 0 rfl rfl 1 (by decide) (ht _ ix_163) (fun _ h9 => h9) rfl d_M_crossing_105 ?_
      refine lv_imul hx hb d_M_crossing_108 ?_
      refine lv_iconst (v := 1) hx hb d_M_crossing_109 (by decide) ?_
      refine lv_iadd hx hb d_M_crossing_110 ?_
      refine lv_iload_n hx hb d_M_crossing_111 rfl (lv_at hl 3 rfl) ?_
      obtain ⟨g_5, h⟩ := gd_some h
      refine va_iast hx hb hK hP hD hS 2 1 rfl rfl (inb_in g_5) d_M_crossing_112 (fun H locs hP hD hS => ?_)
      have hP : va_P D classes (wM a k mh mn mc (upd ms mn.toNatClampNeg x1) (upd (upd ml ((4 : Int32) * mn).toNatClampNeg x2) (((4 : Int32) * mn) + (1 : Int32)).toNatClampNeg x3) mm mt mo mk mr my mb mf) H := hP
      have hD : va_D A (wM a k mh mn mc (upd ms mn.toNatClampNeg x1) (upd (upd ml ((4 : Int32) * mn).toNatClampNeg x2) (((4 : Int32) * mn) + (1 : Int32)).toNatClampNeg x3) mm mt mo mk mr my mb mf) := hD
      refine lv_aload_n hx hb d_M_crossing_113 rfl (lv_at hl 0 rfl) ?_
      refine va_get (D := D) (ci := 3) (v := .ref (a 22)) (C := R_M) (T := F_M) (N := 13) hx hb ht iC_M hown hK hP 0 rfl rfl 4 (by decide) (ht _ ix_164) (fun _ h9 => h9) rfl d_M_crossing_114 ?_
      refine lv_iconst (v := 4) hx hb d_M_crossing_117 (by decide) ?_
      refine lv_aload_n hx hb d_M_crossing_118 rfl (lv_at hl 0 rfl) ?_
      refine va_get (D := D) (ci := 3) (v := .int mn) (C := R_M) (T := F_M) (N := 13) hx hb ht iC_M hown hK hP 0 rfl rfl 1 (by decide) (ht _ ix_163) (fun _ h9 => h9) rfl d_M_crossing_119 ?_
      refine lv_imul hx hb d_M_crossing_122 ?_
      refine lv_iconst (v := 2) hx hb d_M_crossing_123 (by decide) ?_
      refine lv_iadd hx hb d_M_crossing_124 ?_
      refine lv_iload hx hb d_M_crossing_125 (lv_at hl 4 rfl) ?_
      obtain ⟨g_6, h⟩ := gd_some h
      refine va_iast hx hb hK hP hD hS 2 1 rfl rfl (inb_in g_6) d_M_crossing_127 (fun H locs hP hD hS => ?_)
      have hP : va_P D classes (wM a k mh mn mc (upd ms mn.toNatClampNeg x1) (upd (upd (upd ml ((4 : Int32) * mn).toNatClampNeg x2) (((4 : Int32) * mn) + (1 : Int32)).toNatClampNeg x3) (((4 : Int32) * mn) + (2 : Int32)).toNatClampNeg x4) mm mt mo mk mr my mb mf) H := hP
      have hD : va_D A (wM a k mh mn mc (upd ms mn.toNatClampNeg x1) (upd (upd (upd ml ((4 : Int32) * mn).toNatClampNeg x2) (((4 : Int32) * mn) + (1 : Int32)).toNatClampNeg x3) (((4 : Int32) * mn) + (2 : Int32)).toNatClampNeg x4) mm mt mo mk mr my mb mf) := hD
      refine lv_aload_n hx hb d_M_crossing_128 rfl (lv_at hl 0 rfl) ?_
      refine va_get (D := D) (ci := 3) (v := .ref (a 22)) (C := R_M) (T := F_M) (N := 13) hx hb ht iC_M hown hK hP 0 rfl rfl 4 (by decide) (ht _ ix_164) (fun _ h9 => h9) rfl d_M_crossing_129 ?_
      refine lv_iconst (v := 4) hx hb d_M_crossing_132 (by decide) ?_
      refine lv_aload_n hx hb d_M_crossing_133 rfl (lv_at hl 0 rfl) ?_
      refine va_get (D := D) (ci := 3) (v := .int mn) (C := R_M) (T := F_M) (N := 13) hx hb ht iC_M hown hK hP 0 rfl rfl 1 (by decide) (ht _ ix_163) (fun _ h9 => h9) rfl d_M_crossing_134 ?_
      refine lv_imul hx hb d_M_crossing_137 ?_
      refine lv_iconst (v := 3) hx hb d_M_crossing_138 (by decide) ?_
      refine lv_iadd hx hb d_M_crossing_139 ?_
      refine lv_iload hx hb d_M_crossing_140 (lv_at hl 5 rfl) ?_
      obtain ⟨g_7, h⟩ := gd_some h
      refine va_iast hx hb hK hP hD hS 2 1 rfl rfl (inb_in g_7) d_M_crossing_142 (fun H locs hP hD hS => ?_)
      have hP : va_P D classes (wM a k mh mn mc (upd ms mn.toNatClampNeg x1) (upd (upd (upd (upd ml ((4 : Int32) * mn).toNatClampNeg x2) (((4 : Int32) * mn) + (1 : Int32)).toNatClampNeg x3) (((4 : Int32) * mn) + (2 : Int32)).toNatClampNeg x4) (((4 : Int32) * mn) + (3 : Int32)).toNatClampNeg x5) mm mt mo mk mr my mb mf) H := hP
      have hD : va_D A (wM a k mh mn mc (upd ms mn.toNatClampNeg x1) (upd (upd (upd (upd ml ((4 : Int32) * mn).toNatClampNeg x2) (((4 : Int32) * mn) + (1 : Int32)).toNatClampNeg x3) (((4 : Int32) * mn) + (2 : Int32)).toNatClampNeg x4) (((4 : Int32) * mn) + (3 : Int32)).toNatClampNeg x5) mm mt mo mk mr my mb mf) := hD
      refine lv_aload_n hx hb d_M_crossing_143 rfl (lv_at hl 0 rfl) ?_
      refine lv_dup hx hb d_M_crossing_144 rfl ?_
      refine va_get (D := D) (ci := 3) (v := .int mn) (C := R_M) (T := F_M) (N := 13) hx hb ht iC_M hown hK hP 0 rfl rfl 1 (by decide) (ht _ ix_163) (fun _ h9 => h9) rfl d_M_crossing_145 ?_
      refine lv_iconst (v := 1) hx hb d_M_crossing_148 (by decide) ?_
      refine lv_iadd hx hb d_M_crossing_149 ?_
      refine va_put (D := D) (ci := 3) (v := .int (mn + (1 : Int32))) (ty := .int) (C := R_M) (T := F_M) (N := 13) hx hb ht iC_M t_M t_M_ok n_M hown hK hP hD hS 0 rfl rfl 1 (by decide) (ht _ ix_163) (fun _ h9 => h9) rfl (by decide +kernel) rfl rfl (Nat.le_of_ble_eq_true rfl) d_M_crossing_150 (fun H locs hP hD hS => ?_)
      have hP : va_P D classes (wM a k mh (mn + (1 : Int32)) mc (upd ms mn.toNatClampNeg x1) (upd (upd (upd (upd ml ((4 : Int32) * mn).toNatClampNeg x2) (((4 : Int32) * mn) + (1 : Int32)).toNatClampNeg x3) (((4 : Int32) * mn) + (2 : Int32)).toNatClampNeg x4) (((4 : Int32) * mn) + (3 : Int32)).toNatClampNeg x5) mm mt mo mk mr my mb mf) H := hP
      have hD : va_D A (wM a k mh (mn + (1 : Int32)) mc (upd ms mn.toNatClampNeg x1) (upd (upd (upd (upd ml ((4 : Int32) * mn).toNatClampNeg x2) (((4 : Int32) * mn) + (1 : Int32)).toNatClampNeg x3) (((4 : Int32) * mn) + (2 : Int32)).toNatClampNeg x4) (((4 : Int32) * mn) + (3 : Int32)).toNatClampNeg x5) mm mt mo mk mr my mb mf) := hD
      refine lv_aload_n hx hb d_M_crossing_153 rfl (lv_at hl 0 rfl) ?_
      refine lv_iconst (v := 0) hx hb d_M_crossing_154 (by decide) ?_
      refine va_put (D := D) (ci := 3) (v := .int (0 : Int32)) (ty := .boolean) (C := R_M) (T := F_M) (N := 13) hx hb ht iC_M t_M t_M_ok n_M hown hK hP hD hS 0 rfl rfl 8 (by decide) (ht _ ix_190) (fun _ h9 => h9) rfl (by decide +kernel) rfl rfl (Nat.le_of_ble_eq_true rfl) d_M_crossing_155 (fun H locs hP hD hS => ?_)
      have hP : va_P D classes (wM a k mh (mn + (1 : Int32)) mc (upd ms mn.toNatClampNeg x1) (upd (upd (upd (upd ml ((4 : Int32) * mn).toNatClampNeg x2) (((4 : Int32) * mn) + (1 : Int32)).toNatClampNeg x3) (((4 : Int32) * mn) + (2 : Int32)).toNatClampNeg x4) (((4 : Int32) * mn) + (3 : Int32)).toNatClampNeg x5) mm mt mo (0 : Int32) mr my mb mf) H := hP
      have hD : va_D A (wM a k mh (mn + (1 : Int32)) mc (upd ms mn.toNatClampNeg x1) (upd (upd (upd (upd ml ((4 : Int32) * mn).toNatClampNeg x2) (((4 : Int32) * mn) + (1 : Int32)).toNatClampNeg x3) (((4 : Int32) * mn) + (2 : Int32)).toNatClampNeg x4) (((4 : Int32) * mn) + (3 : Int32)).toNatClampNeg x5) mm mt mo (0 : Int32) mr my mb mf) := hD
      refine lv_aload_n hx hb d_M_crossing_158 rfl (lv_at hl 0 rfl) ?_
      refine va_get (D := D) (ci := 3) (v := .int (mn + (1 : Int32))) (C := R_M) (T := F_M) (N := 13) hx hb ht iC_M hown hK hP 0 rfl rfl 1 (by decide) (ht _ ix_163) (fun _ h9 => h9) rfl d_M_crossing_159 ?_
      cases h
      exact W.iret hx hb hr (fun t ht hW => ⟨⟨_, (), rfl, rfl, by rw [ht]; exact hP, va_K.moved hW.alike hK, hD⟩, hS.F ht⟩) hS.2.2 d_M_crossing_162 hlk
    · have h := ite_T c_2 h
      refine lv_iconst (v := (-1)) hx hb d_M_crossing_75 (by decide) ?_
      cases h
      exact W.iret hx hb hr (fun t ht hW => ⟨⟨_, (), rfl, rfl, by rw [ht]; exact hP, va_K.moved hW.alike hK, hD⟩, hS.F ht⟩) hS.2.2 d_M_crossing_76 hlk
set_option maxHeartbeats 4000000 in
set_option maxRecDepth 100000 in
theorem k_M_crossing_49 {p : Program} {l : Launch} {e : Env} {s : State} {m : MethodId} {args : Array Value} {below : List Frame} {meth : Method} {c : Code} {D : va_G} {A : Nat → Prop} {a : Nat → Nat} {k : Nat → ClassId} {mh : Int32} {mc : Int32} {mm : Nat → Int32} {mt : Nat → Int32} {mo : Nat → Int32} {mr : Nat → Int64} {my : Nat → Int32} {mb : Nat → Int64} {mf : Nat → Int32} (C : cx D [(k 21, .int), (k 22, .int), (k 23, .int), (k 24, .boolean), (k 25, .boolean), (k 26, .long), (k 27, .int), (k 28, .long), (k 29, .int)] R_M b_M_crossing 7 (some .int) A p s m args meth c) : H_M_crossing_49 p l e s m args below meth c D A a k mh mc mm mt mo mr my mb mf (J_M_crossing_49) := by
  obtain ⟨hx, hb, hr, hml, hown, ht, hlk, hA, hK⟩ := id C
  intro x1 x2 x3 x4 x5 y0 mn ms ml mk r h H locs ls hP hD hS hl
  unfold J_M_crossing_49 at h
  refine lv_istore (lv' := [(6, .int y0), (0, .ref (a 20)), (1, .int x1), (2, .int x2), (3, .int x3), (4, .int x4), (5, .int x5)]) hx hb d_M_crossing_49 hl (by decide) rfl (fun ls hl => ?_)
  refine lv_iload_n hx hb d_M_crossing_51 rfl (lv_at hl 2 rfl) ?_
  refine lv_iconst (v := 1) hx hb d_M_crossing_52 (by decide) ?_
  refine lv_icmp_eq (tgt := 61) hx hb d_M_crossing_53 (by decide) (fun c_1 => ?_) (fun c_1 => ?_)
  · have h := ite_T c_1 h
    exact (k_M_crossing_61 C) _ _ _ _ _ _ _ _ _ _ _ h _ _ _ hP hD hS (lv_sub hl [1, 2, 3, 4, 5, 6, 0] rfl)
  · have h := ite_F c_1 h
    refine lv_iload_n hx hb d_M_crossing_56 rfl (lv_at hl 2 rfl) ?_
    refine lv_iconst (v := (-1)) hx hb d_M_crossing_57 (by decide) ?_
    refine lv_icmp_ne (tgt := 75) hx hb d_M_crossing_58 (by decide) (fun c_2 => ?_) (fun c_2 => ?_)
    · have h := ite_F c_2 h
      refine lv_iconst (v := (-1)) hx hb d_M_crossing_75 (by decide) ?_
      cases h
      exact W.iret hx hb hr (fun t ht hW => ⟨⟨_, (), rfl, rfl, by rw [ht]; exact hP, va_K.moved hW.alike hK, hD⟩, hS.F ht⟩) hS.2.2 d_M_crossing_76 hlk
    · have h := ite_T c_2 h
      exact (k_M_crossing_61 C) _ _ _ _ _ _ _ _ _ _ _ h _ _ _ hP hD hS (lv_sub hl [1, 2, 3, 4, 5, 6, 0] rfl)
set_option maxHeartbeats 4000000 in
set_option maxRecDepth 100000 in
theorem k_M_crossing_48 {p : Program} {l : Launch} {e : Env} {s : State} {m : MethodId} {args : Array Value} {below : List Frame} {meth : Method} {c : Code} {D : va_G} {A : Nat → Prop} {a : Nat → Nat} {k : Nat → ClassId} {mh : Int32} {mc : Int32} {mm : Nat → Int32} {mt : Nat → Int32} {mo : Nat → Int32} {mr : Nat → Int64} {my : Nat → Int32} {mb : Nat → Int64} {mf : Nat → Int32} (C : cx D [(k 21, .int), (k 22, .int), (k 23, .int), (k 24, .boolean), (k 25, .boolean), (k 26, .long), (k 27, .int), (k 28, .long), (k 29, .int)] R_M b_M_crossing 7 (some .int) A p s m args meth c) : H_M_crossing_48 p l e s m args below meth c D A a k mh mc mm mt mo mr my mb mf (J_M_crossing_48) := by
  obtain ⟨hx, hb, hr, hml, hown, ht, hlk, hA, hK⟩ := id C
  intro x1 x2 x3 x4 x5 mn ms ml mk r h H locs ls hP hD hS hl
  unfold J_M_crossing_48 at h
  refine lv_iconst (v := 0) hx hb d_M_crossing_48 (by decide) ?_
  exact (k_M_crossing_49 C) _ _ _ _ _ _ _ _ _ _ _ h _ _ _ hP hD hS (lv_sub hl [0, 1, 2, 3, 4, 5] rfl)
set_option maxHeartbeats 4000000 in
set_option maxRecDepth 100000 in
theorem k_M_crossing_0 {p : Program} {l : Launch} {e : Env} {s : State} {m : MethodId} {args : Array Value} {below : List Frame} {meth : Method} {c : Code} {D : va_G} {A : Nat → Prop} {a : Nat → Nat} {k : Nat → ClassId} {mh : Int32} {mc : Int32} {mm : Nat → Int32} {mt : Nat → Int32} {mo : Nat → Int32} {mr : Nat → Int64} {my : Nat → Int32} {mb : Nat → Int64} {mf : Nat → Int32} (C : cx D [(k 21, .int), (k 22, .int), (k 23, .int), (k 24, .boolean), (k 25, .boolean), (k 26, .long), (k 27, .int), (k 28, .long), (k 29, .int)] R_M b_M_crossing 7 (some .int) A p s m args meth c) : H_M_crossing_0 p l e s m args below meth c D A a k mh mc mm mt mo mr my mb mf (J_M_crossing_0) := by
  obtain ⟨hx, hb, hr, hml, hown, ht, hlk, hA, hK⟩ := id C
  intro x1 x2 x3 x4 x5 mn ms ml mk r h H locs ls hP hD hS hl
  unfold J_M_crossing_0 at h
  refine lv_iload_n hx hb d_M_crossing_0 rfl (lv_at hl 2 rfl) ?_
  refine lv_if_le (tgt := 48) hx hb d_M_crossing_1 (by decide) (fun c_1 => ?_) (fun c_1 => ?_)
  · have h := ite_T c_1 h
    exact (k_M_crossing_48 C) _ _ _ _ _ _ _ _ _ _ h _ _ _ hP hD hS (lv_sub hl [0, 1, 2, 3, 4, 5] rfl)
  · have h := ite_F c_1 h
    refine lv_iload_n hx hb d_M_crossing_4 rfl (lv_at hl 2 rfl) ?_
    refine lv_bipush (v := 100) hx hb d_M_crossing_5 (by decide) ?_
    refine lv_icmp_ge (tgt := 48) hx hb d_M_crossing_7 (by decide) (fun c_2 => ?_) (fun c_2 => ?_)
    · have h := ite_T c_2 h
      exact (k_M_crossing_48 C) _ _ _ _ _ _ _ _ _ _ h _ _ _ hP hD hS (lv_sub hl [0, 1, 2, 3, 4, 5] rfl)
    · have h := ite_F c_2 h
      refine lv_iload_n hx hb d_M_crossing_10 rfl (lv_at hl 3 rfl) ?_
      refine lv_if_le (tgt := 48) hx hb d_M_crossing_11 (by decide) (fun c_3 => ?_) (fun c_3 => ?_)
      · have h := ite_T c_3 h
        exact (k_M_crossing_48 C) _ _ _ _ _ _ _ _ _ _ h _ _ _ hP hD hS (lv_sub hl [0, 1, 2, 3, 4, 5] rfl)
      · have h := ite_F c_3 h
        refine lv_iload_n hx hb d_M_crossing_14 rfl (lv_at hl 3 rfl) ?_
        refine lv_bipush (v := 100) hx hb d_M_crossing_15 (by decide) ?_
        refine lv_icmp_ge (tgt := 48) hx hb d_M_crossing_17 (by decide) (fun c_4 => ?_) (fun c_4 => ?_)
        · have h := ite_T c_4 h
          exact (k_M_crossing_48 C) _ _ _ _ _ _ _ _ _ _ h _ _ _ hP hD hS (lv_sub hl [0, 1, 2, 3, 4, 5] rfl)
        · have h := ite_F c_4 h
          refine lv_iload hx hb d_M_crossing_20 (lv_at hl 4 rfl) ?_
          refine lv_if_le (tgt := 48) hx hb d_M_crossing_22 (by decide) (fun c_5 => ?_) (fun c_5 => ?_)
          · have h := ite_T c_5 h
            exact (k_M_crossing_48 C) _ _ _ _ _ _ _ _ _ _ h _ _ _ hP hD hS (lv_sub hl [0, 1, 2, 3, 4, 5] rfl)
          · have h := ite_F c_5 h
            refine lv_iload hx hb d_M_crossing_25 (lv_at hl 4 rfl) ?_
            refine lv_bipush (v := 100) hx hb d_M_crossing_27 (by decide) ?_
            refine lv_icmp_ge (tgt := 48) hx hb d_M_crossing_29 (by decide) (fun c_6 => ?_) (fun c_6 => ?_)
            · have h := ite_T c_6 h
              exact (k_M_crossing_48 C) _ _ _ _ _ _ _ _ _ _ h _ _ _ hP hD hS (lv_sub hl [0, 1, 2, 3, 4, 5] rfl)
            · have h := ite_F c_6 h
              refine lv_iload hx hb d_M_crossing_32 (lv_at hl 5 rfl) ?_
              refine lv_if_le (tgt := 48) hx hb d_M_crossing_34 (by decide) (fun c_7 => ?_) (fun c_7 => ?_)
              · have h := ite_T c_7 h
                exact (k_M_crossing_48 C) _ _ _ _ _ _ _ _ _ _ h _ _ _ hP hD hS (lv_sub hl [0, 1, 2, 3, 4, 5] rfl)
              · have h := ite_F c_7 h
                refine lv_iload hx hb d_M_crossing_37 (lv_at hl 5 rfl) ?_
                refine lv_bipush (v := 100) hx hb d_M_crossing_39 (by decide) ?_
                refine lv_icmp_ge (tgt := 48) hx hb d_M_crossing_41 (by decide) (fun c_8 => ?_) (fun c_8 => ?_)
                · have h := ite_T c_8 h
                  exact (k_M_crossing_48 C) _ _ _ _ _ _ _ _ _ _ h _ _ _ hP hD hS (lv_sub hl [0, 1, 2, 3, 4, 5] rfl)
                · have h := ite_F c_8 h
                  refine lv_iconst (v := 1) hx hb d_M_crossing_44 (by decide) ?_
                  refine lv_goto (tgt := 49) hx hb d_M_crossing_45 (by decide) ?_
                  exact (k_M_crossing_49 C) _ _ _ _ _ _ _ _ _ _ _ h _ _ _ hP hD hS (lv_sub hl [0, 1, 2, 3, 4, 5] rfl)
set_option maxRecDepth 20000 in
theorem c_M_crossing (l : Launch) (D : va_G) (a : Nat → Nat) (k : Nat → ClassId) (sz : Nat) (x1 : Int32) (x2 : Int32) (x3 : Int32) (x4 : Int32) (x5 : Int32) (mh : Int32) (mn : Int32) (mc : Int32) (ms : Nat → Int32) (ml : Nat → Int32) (mm : Nat → Int32) (mt : Nat → Int32) (mo : Nat → Int32) (mk : Int32) (mr : Nat → Int64) (my : Nat → Int32) (mb : Nat → Int64) (mf : Nat → Int32) (r : Int32 × Int32 × (Nat → Int32) × (Nat → Int32) × Int32) (h : F_M_crossing x1 x2 x3 x4 x5 mn ms ml mk = some r) : Met l y_M_crossing (Cond.code y_M_crossing b_M_crossing 7 (some .int) :: lw_g) (rm_M_crossing) (va_Pc [.ref (a 20), .int x1, .int x2, .int x3, .int x4, .int x5] (pcW D [(k 21, .int), (k 22, .int), (k 23, .int), (k 24, .boolean), (k 25, .boolean), (k 26, .long), (k 27, .int), (k 28, .long), (k 29, .int)] (wM a k mh mn mc ms ml mm mt mo mk mr my mb mf) sz)) (qc_M_crossing D (va_A (wM a k mh mn mc ms ml mm mt mo mk mr my mb mf) sz) a k mh mc mm mt mo mr my mb mf r) 0 0 (va_A (wM a k mh mn mc ms ml mm mt mo mk mr my mb mf) sz) := by
  refine Met.ofW (cc := b_M_crossing) (maxL := 7) (ret := (some .int)) (by decide) rfl ?_
  intro p e s m args below meth c s₁ B hml hv
  obtain ⟨rfl, hsz, hP, hK, hD0⟩ := hv
  have hts := atoms_spec (ws := Cond.code y_M_crossing b_M_crossing 7 (some .int) :: lw_g) B.pre
  subst hsz
  have hD := hD0.self (sz := s.heap.size)
  have hl := lv_entry ([.ref (a 20), .int x1, .int x2, .int x3, .int x4, .int x5]) (n := 7) (Nat.le_of_ble_eq_true rfl)
  rw [lg_entry_eq]
  generalize (lg_sl ([.ref (a 20), .int x1, .int x2, .int x3, .int x4, .int x5]) ++ List.replicate (7 - (lg_sl ([.ref (a 20), .int x1, .int x2, .int x3, .int x4, .int x5])).length) Slot.unset).toArray = ls at hl ⊢
  exact k_M_crossing_0 ⟨B.exec, B.bytes, B.returns, hml, findClass_of_methodNamed B.named, fun w hw => hts w (List.mem_cons_of_mem _ hw), B.notSynchronized, fun q h => Or.inr h, hK⟩ _ _ _ _ _ _ _ _ _ _ h _ _ _ hP hD va_S.rf hl

def rm_M_circles : Room := { frames := 0, cells := 0, slots := 0, locals := 0 }
def qc_M_circles (D : va_G) (A : Nat → Prop) (a : Nat → Nat) (k : Nat → ClassId) (mh : Int32) (mn : Int32) (ms : Nat → Int32) (ml : Nat → Int32) (mm : Nat → Int32) (mt : Nat → Int32) (mo : Nat → Int32) (mr : Nat → Int64) (my : Nat → Int32) (mb : Nat → Int64) (mf : Nat → Int32) (r : Int32 × Int32 × Int32) : Array Value → State → Outcome → State → Prop := va_Qi (fun (r1 : Int32) (_ : Unit) => r1 = r.1) (poW D [(k 21, .int), (k 22, .int), (k 23, .int), (k 24, .boolean), (k 25, .boolean), (k 26, .long), (k 27, .int), (k 28, .long), (k 29, .int)] (wM a k mh mn r.2.1 ms ml mm mt mo r.2.2 mr my mb mf) A) A
def J_M_circles_0 (x1 : Int32) (mc : Int32) (mk : Int32) : Option (Int32 × Int32 × Int32) :=
  (if x1 < 0 then some ((-1 : Int32), mc, mk) else (if x1 ≤ (9 : Int32) then some (mc, x1, (0 : Int32)) else some ((-1 : Int32), mc, mk)))
def F_M_circles (x1 : Int32) (mc : Int32) (mk : Int32) : Option (Int32 × Int32 × Int32) := J_M_circles_0 x1 mc mk
def H_M_circles_0 (p : Program) (l : Launch) (e : Env) (s : State) (m : MethodId) (args : Array Value) (below : List Frame) (meth : Method) (c : Code) (D : va_G) (A : Nat → Prop) (a : Nat → Nat) (k : Nat → ClassId) (mh : Int32) (mn : Int32) (ms : Nat → Int32) (ml : Nat → Int32) (mm : Nat → Int32) (mt : Nat → Int32) (mo : Nat → Int32) (mr : Nat → Int64) (my : Nat → Int32) (mb : Nat → Int64) (mf : Nat → Int32) (f : Int32 → Int32 → Int32 → Option (Int32 × Int32 × Int32)) : Prop := ∀ (x1 : Int32) (mc : Int32) (mk : Int32) (r : Int32 × Int32 × Int32), f x1 mc mk = some r → ∀ (H : Heap) (locs : List Loc) (ls : Array Slot), va_P D classes (wM a k mh mn mc ms ml mm mt mo mk mr my mb mf) H → va_D A (wM a k mh mn mc ms ml mm mt mo mk mr my mb mf) → va_S A s.heap H locs → lv_has ls 3 [(0, .ref (a 20)), (1, .int x1)] → W p l e (rm_M_circles) s m args below meth c H locs 0 0 (MQ below (qc_M_circles D A a k mh mn ms ml mm mt mo mr my mb mf r) args s 0 0 A) (F0 m 0 ls [])
set_option maxHeartbeats 4000000 in
set_option maxRecDepth 100000 in
theorem k_M_circles_0 {p : Program} {l : Launch} {e : Env} {s : State} {m : MethodId} {args : Array Value} {below : List Frame} {meth : Method} {c : Code} {D : va_G} {A : Nat → Prop} {a : Nat → Nat} {k : Nat → ClassId} {mh : Int32} {mn : Int32} {ms : Nat → Int32} {ml : Nat → Int32} {mm : Nat → Int32} {mt : Nat → Int32} {mo : Nat → Int32} {mr : Nat → Int64} {my : Nat → Int32} {mb : Nat → Int64} {mf : Nat → Int32} (C : cx D [(k 21, .int), (k 22, .int), (k 23, .int), (k 24, .boolean), (k 25, .boolean), (k 26, .long), (k 27, .int), (k 28, .long), (k 29, .int)] R_M b_M_circles 3 (some .int) A p s m args meth c) : H_M_circles_0 p l e s m args below meth c D A a k mh mn ms ml mm mt mo mr my mb mf (J_M_circles_0) := by
  obtain ⟨hx, hb, hr, hml, hown, ht, hlk, hA, hK⟩ := id C
  intro x1 mc mk r h H locs ls hP hD hS hl
  unfold J_M_circles_0 at h
  refine lv_iload_n hx hb d_M_circles_0 rfl (lv_at hl 1 rfl) ?_
  refine lv_if_lt (tgt := 10) hx hb d_M_circles_1 (by decide) (fun c_1 => ?_) (fun c_1 => ?_)
  · have h := ite_T c_1 h
    refine lv_iconst (v := (-1)) hx hb d_M_circles_10 (by decide) ?_
    cases h
    exact W.iret hx hb hr (fun t ht hW => ⟨⟨_, (), rfl, rfl, by rw [ht]; exact hP, va_K.moved hW.alike hK, hD⟩, hS.F ht⟩) hS.2.2 d_M_circles_11 hlk
  · have h := ite_F c_1 h
    refine lv_iload_n hx hb d_M_circles_4 rfl (lv_at hl 1 rfl) ?_
    refine lv_bipush (v := 9) hx hb d_M_circles_5 (by decide) ?_
    refine lv_icmp_le (tgt := 12) hx hb d_M_circles_7 (by decide) (fun c_2 => ?_) (fun c_2 => ?_)
    · have h := ite_T c_2 h
      refine lv_aload_n hx hb d_M_circles_12 rfl (lv_at hl 0 rfl) ?_
      refine va_get (D := D) (ci := 3) (v := .int mc) (C := R_M) (T := F_M) (N := 13) hx hb ht iC_M hown hK hP 0 rfl rfl 2 (by decide) (ht _ ix_171) (fun _ h9 => h9) rfl d_M_circles_13 ?_
      refine lv_istore_n (lv' := [(2, .int mc), (0, .ref (a 20)), (1, .int x1)]) hx hb d_M_circles_16 rfl hl (by decide) rfl (fun ls hl => ?_)
      refine lv_aload_n hx hb d_M_circles_17 rfl (lv_at hl 1 rfl) ?_
      refine lv_iload_n hx hb d_M_circles_18 rfl (lv_at hl 2 rfl) ?_
      refine va_put (D := D) (ci := 3) (v := .int x1) (ty := .int) (C := R_M) (T := F_M) (N := 13) hx hb ht iC_M t_M t_M_ok n_M hown hK hP hD hS 0 rfl rfl 2 (by decide) (ht _ ix_171) (fun _ h9 => h9) rfl (by decide +kernel) rfl rfl (Nat.le_of_ble_eq_true rfl) d_M_circles_19 (fun H locs hP hD hS => ?_)
      have hP : va_P D classes (wM a k mh mn x1 ms ml mm mt mo mk mr my mb mf) H := hP
      have hD : va_D A (wM a k mh mn x1 ms ml mm mt mo mk mr my mb mf) := hD
      refine lv_aload_n hx hb d_M_circles_22 rfl (lv_at hl 1 rfl) ?_
      refine lv_iconst (v := 0) hx hb d_M_circles_23 (by decide) ?_
      refine va_put (D := D) (ci := 3) (v := .int (0 : Int32)) (ty := .boolean) (C := R_M) (T := F_M) (N := 13) hx hb ht iC_M t_M t_M_ok n_M hown hK hP hD hS 0 rfl rfl 8 (by decide) (ht _ ix_190) (fun _ h9 => h9) rfl (by decide +kernel) rfl rfl (Nat.le_of_ble_eq_true rfl) d_M_circles_24 (fun H locs hP hD hS => ?_)
      have hP : va_P D classes (wM a k mh mn x1 ms ml mm mt mo (0 : Int32) mr my mb mf) H := hP
      have hD : va_D A (wM a k mh mn x1 ms ml mm mt mo (0 : Int32) mr my mb mf) := hD
      refine lv_iload_n hx hb d_M_circles_27 rfl (lv_at hl 0 rfl) ?_
      cases h
      exact W.iret hx hb hr (fun t ht hW => ⟨⟨_, (), rfl, rfl, by rw [ht]; exact hP, va_K.moved hW.alike hK, hD⟩, hS.F ht⟩) hS.2.2 d_M_circles_28 hlk
    · have h := ite_F c_2 h
      refine lv_iconst (v := (-1)) hx hb d_M_circles_10 (by decide) ?_
      cases h
      exact W.iret hx hb hr (fun t ht hW => ⟨⟨_, (), rfl, rfl, by rw [ht]; exact hP, va_K.moved hW.alike hK, hD⟩, hS.F ht⟩) hS.2.2 d_M_circles_11 hlk
set_option maxRecDepth 20000 in
theorem c_M_circles (l : Launch) (D : va_G) (a : Nat → Nat) (k : Nat → ClassId) (sz : Nat) (x1 : Int32) (mh : Int32) (mn : Int32) (mc : Int32) (ms : Nat → Int32) (ml : Nat → Int32) (mm : Nat → Int32) (mt : Nat → Int32) (mo : Nat → Int32) (mk : Int32) (mr : Nat → Int64) (my : Nat → Int32) (mb : Nat → Int64) (mf : Nat → Int32) (r : Int32 × Int32 × Int32) (h : F_M_circles x1 mc mk = some r) : Met l y_M_circles (Cond.code y_M_circles b_M_circles 3 (some .int) :: lw_g) (rm_M_circles) (va_Pc [.ref (a 20), .int x1] (pcW D [(k 21, .int), (k 22, .int), (k 23, .int), (k 24, .boolean), (k 25, .boolean), (k 26, .long), (k 27, .int), (k 28, .long), (k 29, .int)] (wM a k mh mn mc ms ml mm mt mo mk mr my mb mf) sz)) (qc_M_circles D (va_A (wM a k mh mn mc ms ml mm mt mo mk mr my mb mf) sz) a k mh mn ms ml mm mt mo mr my mb mf r) 0 0 (va_A (wM a k mh mn mc ms ml mm mt mo mk mr my mb mf) sz) := by
  refine Met.ofW (cc := b_M_circles) (maxL := 3) (ret := (some .int)) (by decide) rfl ?_
  intro p e s m args below meth c s₁ B hml hv
  obtain ⟨rfl, hsz, hP, hK, hD0⟩ := hv
  have hts := atoms_spec (ws := Cond.code y_M_circles b_M_circles 3 (some .int) :: lw_g) B.pre
  subst hsz
  have hD := hD0.self (sz := s.heap.size)
  have hl := lv_entry ([.ref (a 20), .int x1]) (n := 3) (Nat.le_of_ble_eq_true rfl)
  rw [lg_entry_eq]
  generalize (lg_sl ([.ref (a 20), .int x1]) ++ List.replicate (3 - (lg_sl ([.ref (a 20), .int x1])).length) Slot.unset).toArray = ls at hl ⊢
  exact k_M_circles_0 ⟨B.exec, B.bytes, B.returns, hml, findClass_of_methodNamed B.named, fun w hw => hts w (List.mem_cons_of_mem _ hw), B.notSynchronized, fun q h => Or.inr h, hK⟩ _ _ _ _ h _ _ _ hP hD va_S.rf hl

def rm_M_clear : Room := { frames := 0, cells := 0, slots := 0, locals := 0 }
def qc_M_clear (D : va_G) (A : Nat → Prop) (a : Nat → Nat) (k : Nat → ClassId) (mh : Int32) (ms : Nat → Int32) (ml : Nat → Int32) (mm : Nat → Int32) (mt : Nat → Int32) (mo : Nat → Int32) (mr : Nat → Int64) (my : Nat → Int32) (mb : Nat → Int64) (mf : Nat → Int32) (r : Int32 × Int32 × Int32 × Int32) : Array Value → State → Outcome → State → Prop := va_Qi (fun (r1 : Int32) (_ : Unit) => r1 = r.1) (poW D [(k 21, .int), (k 22, .int), (k 23, .int), (k 24, .boolean), (k 25, .boolean), (k 26, .long), (k 27, .int), (k 28, .long), (k 29, .int)] (wM a k mh r.2.1 r.2.2.1 ms ml mm mt mo r.2.2.2 mr my mb mf) A) A
def J_M_clear_0 (mn : Int32) (mc : Int32) (mk : Int32) : Option (Int32 × Int32 × Int32 × Int32) :=
  some (mn, (0 : Int32), (0 : Int32), (0 : Int32))
def F_M_clear (mn : Int32) (mc : Int32) (mk : Int32) : Option (Int32 × Int32 × Int32 × Int32) := J_M_clear_0 mn mc mk
def H_M_clear_0 (p : Program) (l : Launch) (e : Env) (s : State) (m : MethodId) (args : Array Value) (below : List Frame) (meth : Method) (c : Code) (D : va_G) (A : Nat → Prop) (a : Nat → Nat) (k : Nat → ClassId) (mh : Int32) (ms : Nat → Int32) (ml : Nat → Int32) (mm : Nat → Int32) (mt : Nat → Int32) (mo : Nat → Int32) (mr : Nat → Int64) (my : Nat → Int32) (mb : Nat → Int64) (mf : Nat → Int32) (f : Int32 → Int32 → Int32 → Option (Int32 × Int32 × Int32 × Int32)) : Prop := ∀ (mn : Int32) (mc : Int32) (mk : Int32) (r : Int32 × Int32 × Int32 × Int32), f mn mc mk = some r → ∀ (H : Heap) (locs : List Loc) (ls : Array Slot), va_P D classes (wM a k mh mn mc ms ml mm mt mo mk mr my mb mf) H → va_D A (wM a k mh mn mc ms ml mm mt mo mk mr my mb mf) → va_S A s.heap H locs → lv_has ls 2 [(0, .ref (a 20))] → W p l e (rm_M_clear) s m args below meth c H locs 0 0 (MQ below (qc_M_clear D A a k mh ms ml mm mt mo mr my mb mf r) args s 0 0 A) (F0 m 0 ls [])
set_option maxHeartbeats 4000000 in
set_option maxRecDepth 100000 in
theorem k_M_clear_0 {p : Program} {l : Launch} {e : Env} {s : State} {m : MethodId} {args : Array Value} {below : List Frame} {meth : Method} {c : Code} {D : va_G} {A : Nat → Prop} {a : Nat → Nat} {k : Nat → ClassId} {mh : Int32} {ms : Nat → Int32} {ml : Nat → Int32} {mm : Nat → Int32} {mt : Nat → Int32} {mo : Nat → Int32} {mr : Nat → Int64} {my : Nat → Int32} {mb : Nat → Int64} {mf : Nat → Int32} (C : cx D [(k 21, .int), (k 22, .int), (k 23, .int), (k 24, .boolean), (k 25, .boolean), (k 26, .long), (k 27, .int), (k 28, .long), (k 29, .int)] R_M b_M_clear 2 (some .int) A p s m args meth c) : H_M_clear_0 p l e s m args below meth c D A a k mh ms ml mm mt mo mr my mb mf (J_M_clear_0) := by
  obtain ⟨hx, hb, hr, hml, hown, ht, hlk, hA, hK⟩ := id C
  intro mn mc mk r h H locs ls hP hD hS hl
  unfold J_M_clear_0 at h
  refine lv_aload_n hx hb d_M_clear_0 rfl (lv_at hl 0 rfl) ?_
  refine va_get (D := D) (ci := 3) (v := .int mn) (C := R_M) (T := F_M) (N := 13) hx hb ht iC_M hown hK hP 0 rfl rfl 1 (by decide) (ht _ ix_163) (fun _ h9 => h9) rfl d_M_clear_1 ?_
  refine lv_istore_n (lv' := [(1, .int mn), (0, .ref (a 20))]) hx hb d_M_clear_4 rfl hl (by decide) rfl (fun ls hl => ?_)
  refine lv_aload_n hx hb d_M_clear_5 rfl (lv_at hl 1 rfl) ?_
  refine lv_iconst (v := 0) hx hb d_M_clear_6 (by decide) ?_
  refine va_put (D := D) (ci := 3) (v := .int (0 : Int32)) (ty := .int) (C := R_M) (T := F_M) (N := 13) hx hb ht iC_M t_M t_M_ok n_M hown hK hP hD hS 0 rfl rfl 1 (by decide) (ht _ ix_163) (fun _ h9 => h9) rfl (by decide +kernel) rfl rfl (Nat.le_of_ble_eq_true rfl) d_M_clear_7 (fun H locs hP hD hS => ?_)
  have hP : va_P D classes (wM a k mh (0 : Int32) mc ms ml mm mt mo mk mr my mb mf) H := hP
  have hD : va_D A (wM a k mh (0 : Int32) mc ms ml mm mt mo mk mr my mb mf) := hD
  refine lv_aload_n hx hb d_M_clear_10 rfl (lv_at hl 1 rfl) ?_
  refine lv_iconst (v := 0) hx hb d_M_clear_11 (by decide) ?_
  refine va_put (D := D) (ci := 3) (v := .int (0 : Int32)) (ty := .int) (C := R_M) (T := F_M) (N := 13) hx hb ht iC_M t_M t_M_ok n_M hown hK hP hD hS 0 rfl rfl 2 (by decide) (ht _ ix_171) (fun _ h9 => h9) rfl (by decide +kernel) rfl rfl (Nat.le_of_ble_eq_true rfl) d_M_clear_12 (fun H locs hP hD hS => ?_)
  have hP : va_P D classes (wM a k mh (0 : Int32) (0 : Int32) ms ml mm mt mo mk mr my mb mf) H := hP
  have hD : va_D A (wM a k mh (0 : Int32) (0 : Int32) ms ml mm mt mo mk mr my mb mf) := hD
  refine lv_aload_n hx hb d_M_clear_15 rfl (lv_at hl 1 rfl) ?_
  refine lv_iconst (v := 0) hx hb d_M_clear_16 (by decide) ?_
  refine va_put (D := D) (ci := 3) (v := .int (0 : Int32)) (ty := .boolean) (C := R_M) (T := F_M) (N := 13) hx hb ht iC_M t_M t_M_ok n_M hown hK hP hD hS 0 rfl rfl 8 (by decide) (ht _ ix_190) (fun _ h9 => h9) rfl (by decide +kernel) rfl rfl (Nat.le_of_ble_eq_true rfl) d_M_clear_17 (fun H locs hP hD hS => ?_)
  have hP : va_P D classes (wM a k mh (0 : Int32) (0 : Int32) ms ml mm mt mo (0 : Int32) mr my mb mf) H := hP
  have hD : va_D A (wM a k mh (0 : Int32) (0 : Int32) ms ml mm mt mo (0 : Int32) mr my mb mf) := hD
  refine lv_iload_n hx hb d_M_clear_20 rfl (lv_at hl 0 rfl) ?_
  cases h
  exact W.iret hx hb hr (fun t ht hW => ⟨⟨_, (), rfl, rfl, by rw [ht]; exact hP, va_K.moved hW.alike hK, hD⟩, hS.F ht⟩) hS.2.2 d_M_clear_21 hlk
set_option maxRecDepth 20000 in
theorem c_M_clear (l : Launch) (D : va_G) (a : Nat → Nat) (k : Nat → ClassId) (sz : Nat) (mh : Int32) (mn : Int32) (mc : Int32) (ms : Nat → Int32) (ml : Nat → Int32) (mm : Nat → Int32) (mt : Nat → Int32) (mo : Nat → Int32) (mk : Int32) (mr : Nat → Int64) (my : Nat → Int32) (mb : Nat → Int64) (mf : Nat → Int32) (r : Int32 × Int32 × Int32 × Int32) (h : F_M_clear mn mc mk = some r) : Met l y_M_clear (Cond.code y_M_clear b_M_clear 2 (some .int) :: lw_g) (rm_M_clear) (va_Pc [.ref (a 20)] (pcW D [(k 21, .int), (k 22, .int), (k 23, .int), (k 24, .boolean), (k 25, .boolean), (k 26, .long), (k 27, .int), (k 28, .long), (k 29, .int)] (wM a k mh mn mc ms ml mm mt mo mk mr my mb mf) sz)) (qc_M_clear D (va_A (wM a k mh mn mc ms ml mm mt mo mk mr my mb mf) sz) a k mh ms ml mm mt mo mr my mb mf r) 0 0 (va_A (wM a k mh mn mc ms ml mm mt mo mk mr my mb mf) sz) := by
  refine Met.ofW (cc := b_M_clear) (maxL := 2) (ret := (some .int)) (by decide) rfl ?_
  intro p e s m args below meth c s₁ B hml hv
  obtain ⟨rfl, hsz, hP, hK, hD0⟩ := hv
  have hts := atoms_spec (ws := Cond.code y_M_clear b_M_clear 2 (some .int) :: lw_g) B.pre
  subst hsz
  have hD := hD0.self (sz := s.heap.size)
  have hl := lv_entry ([.ref (a 20)]) (n := 2) (Nat.le_of_ble_eq_true rfl)
  rw [lg_entry_eq]
  generalize (lg_sl ([.ref (a 20)]) ++ List.replicate (2 - (lg_sl ([.ref (a 20)])).length) Slot.unset).toArray = ls at hl ⊢
  exact k_M_clear_0 ⟨B.exec, B.bytes, B.returns, hml, findClass_of_methodNamed B.named, fun w hw => hts w (List.mem_cons_of_mem _ hw), B.notSynchronized, fun q h => Or.inr h, hK⟩ _ _ _ _ h _ _ _ hP hD va_S.rf hl
