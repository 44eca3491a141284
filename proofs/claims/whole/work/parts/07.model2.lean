def rm_M_expand : Room := { frames := 0, cells := 0, slots := 0, locals := 0 }
def qc_M_expand (D : va_G) (A : Nat → Prop) (a : Nat → Nat) (k : Nat → ClassId) (mh : Int32) (mn : Int32) (mc : Int32) (ms : Nat → Int32) (ml : Nat → Int32) (mm : Nat → Int32) (mt : Nat → Int32) (mo : Nat → Int32) (mk : Int32) (my : Nat → Int32) (mf : Nat → Int32) (r : (Nat → Int64) × (Nat → Int64)) : Array Value → State → Outcome → State → Prop := va_Qv (fun (_ : Unit) => True) (poW D [(k 21, .int), (k 22, .int), (k 23, .int), (k 24, .boolean), (k 25, .boolean), (k 26, .long), (k 27, .int), (k 28, .long), (k 29, .int)] (wM a k mh mn mc ms ml mm mt mo mk r.1 my r.2 mf) A) A
def J_M_expand_134 (rec87 : Int32 → Int32 → Int32 → Int32 → (Nat → Int64) → (Nat → Int64) → Option ((Nat → Int64) × (Nat → Int64))) (x1 : Int32) (x2 : Int32) (x3 : Int32) (x4 : Int32) (y0 : Int32) (y1 : Int64) (y2 : Int32) (mr : Nat → Int64) (mb : Nat → Int64) : Option ((Nat → Int64) × (Nat → Int64)) :=
  (if inb x4 40 then (if inb y2 260 then rec87 x1 x2 x3 (x4 + 1) (vp_updL mr y2.toNatClampNeg (y1 + (((y0).toInt64) * (mb x4.toNatClampNeg)))) mb else none) else none)
def J_M_expand_87 (rec87 : Int32 → Int32 → Int32 → Int32 → (Nat → Int64) → (Nat → Int64) → Option ((Nat → Int64) × (Nat → Int64))) (x1 : Int32) (x2 : Int32) (x3 : Int32) (x4 : Int32) (mr : Nat → Int64) (mb : Nat → Int64) : Option ((Nat → Int64) × (Nat → Int64)) :=
  (if x3 < x4 then some (mr, mb) else (if inb ((((128 : Int32) + x2) + ((2 : Int32) * x3)) - ((4 : Int32) * x4)) 260 then (if (x3 - x3 / (2 : Int32) * (2 : Int32)) = 0 then J_M_expand_134 rec87 x1 x2 x3 x4 x1 (mr ((((128 : Int32) + x2) + ((2 : Int32) * x3)) - ((4 : Int32) * x4)).toNatClampNeg) ((((128 : Int32) + x2) + ((2 : Int32) * x3)) - ((4 : Int32) * x4)) mr mb else J_M_expand_134 rec87 x1 x2 x3 x4 (-x1) (mr ((((128 : Int32) + x2) + ((2 : Int32) * x3)) - ((4 : Int32) * x4)).toNatClampNeg) ((((128 : Int32) + x2) + ((2 : Int32) * x3)) - ((4 : Int32) * x4)) mr mb) else none))
def L_M_expand_87 : Nat → Int32 → Int32 → Int32 → Int32 → (Nat → Int64) → (Nat → Int64) → Option ((Nat → Int64) × (Nat → Int64))
  | 0 => fun _ _ _ _ _ _ => none
  | n + 1 => J_M_expand_87 (L_M_expand_87 n)
def J_M_expand_43 (rec33 : Int32 → Int32 → Int32 → Int32 → (Nat → Int64) → (Nat → Int64) → Option ((Nat → Int64) × (Nat → Int64))) (rec43 : Int32 → Int32 → Int32 → Int32 → Int32 → (Nat → Int64) → (Nat → Int64) → Option ((Nat → Int64) × (Nat → Int64))) (x1 : Int32) (x2 : Int32) (x3 : Int32) (x4 : Int32) (x5 : Int32) (mr : Nat → Int64) (mb : Nat → Int64) : Option ((Nat → Int64) × (Nat → Int64)) :=
  (if x5 ≤ 0 then rec33 x1 x2 x3 (x4 + 1) mr mb else (if inb x5 40 then (if inb (x5 - (1 : Int32)) 40 then (if inb x5 40 then rec43 x1 x2 x3 x4 (x5 + (-1)) mr (vp_updL mb x5.toNatClampNeg ((mb x5.toNatClampNeg) + (mb (x5 - (1 : Int32)).toNatClampNeg))) else none) else none) else none))
def L_M_expand_43 (rec33 : Int32 → Int32 → Int32 → Int32 → (Nat → Int64) → (Nat → Int64) → Option ((Nat → Int64) × (Nat → Int64))) : Nat → Int32 → Int32 → Int32 → Int32 → Int32 → (Nat → Int64) → (Nat → Int64) → Option ((Nat → Int64) × (Nat → Int64))
  | 0 => fun _ _ _ _ _ _ _ => none
  | n + 1 => J_M_expand_43 rec33 (L_M_expand_43 rec33 n)
def J_M_expand_33 (rec33 : Int32 → Int32 → Int32 → Int32 → (Nat → Int64) → (Nat → Int64) → Option ((Nat → Int64) × (Nat → Int64))) (x1 : Int32) (x2 : Int32) (x3 : Int32) (x4 : Int32) (mr : Nat → Int64) (mb : Nat → Int64) : Option ((Nat → Int64) × (Nat → Int64)) :=
  (if x3 < x4 then L_M_expand_87 fu x1 x2 x3 (0 : Int32) mr mb else L_M_expand_43 rec33 fu x1 x2 x3 x4 x4 mr mb)
def L_M_expand_33 : Nat → Int32 → Int32 → Int32 → Int32 → (Nat → Int64) → (Nat → Int64) → Option ((Nat → Int64) × (Nat → Int64))
  | 0 => fun _ _ _ _ _ _ => none
  | n + 1 => J_M_expand_33 (L_M_expand_33 n)
def J_M_expand_3 (rec3 : Int32 → Int32 → Int32 → Int32 → (Nat → Int64) → (Nat → Int64) → Option ((Nat → Int64) × (Nat → Int64))) (x1 : Int32) (x2 : Int32) (x3 : Int32) (x4 : Int32) (mr : Nat → Int64) (mb : Nat → Int64) : Option ((Nat → Int64) × (Nat → Int64)) :=
  (if x3 < x4 then (if inb (0 : Int32) 40 then L_M_expand_33 fu x1 x2 x3 (1 : Int32) mr (vp_updL mb (0 : Int32).toNatClampNeg (1 : Int64)) else none) else (if inb x4 40 then rec3 x1 x2 x3 (x4 + 1) mr (vp_updL mb x4.toNatClampNeg (0 : Int64)) else none))
def L_M_expand_3 : Nat → Int32 → Int32 → Int32 → Int32 → (Nat → Int64) → (Nat → Int64) → Option ((Nat → Int64) × (Nat → Int64))
  | 0 => fun _ _ _ _ _ _ => none
  | n + 1 => J_M_expand_3 (L_M_expand_3 n)
def J_M_expand_0 (x1 : Int32) (x2 : Int32) (x3 : Int32) (mr : Nat → Int64) (mb : Nat → Int64) : Option ((Nat → Int64) × (Nat → Int64)) :=
  L_M_expand_3 fu x1 x2 x3 (0 : Int32) mr mb
def F_M_expand (x1 : Int32) (x2 : Int32) (x3 : Int32) (mr : Nat → Int64) (mb : Nat → Int64) : Option ((Nat → Int64) × (Nat → Int64)) := J_M_expand_0 x1 x2 x3 mr mb
def H_M_expand_134 (p : Program) (l : Launch) (e : Env) (s : State) (m : MethodId) (args : Array Value) (below : List Frame) (meth : Method) (c : Code) (D : va_G) (A : Nat → Prop) (a : Nat → Nat) (k : Nat → ClassId) (mh : Int32) (mn : Int32) (mc : Int32) (ms : Nat → Int32) (ml : Nat → Int32) (mm : Nat → Int32) (mt : Nat → Int32) (mo : Nat → Int32) (mk : Int32) (my : Nat → Int32) (mf : Nat → Int32) (f : Int32 → Int32 → Int32 → Int32 → Int32 → Int64 → Int32 → (Nat → Int64) → (Nat → Int64) → Option ((Nat → Int64) × (Nat → Int64))) : Prop := ∀ (x1 : Int32) (x2 : Int32) (x3 : Int32) (x4 : Int32) (y0 : Int32) (y1 : Int64) (y2 : Int32) (mr : Nat → Int64) (mb : Nat → Int64) (r : (Nat → Int64) × (Nat → Int64)), f x1 x2 x3 x4 y0 y1 y2 mr mb = some r → ∀ (H : Heap) (locs : List Loc) (ls : Array Slot), va_P D classes (wM a k mh mn mc ms ml mm mt mo mk mr my mb mf) H → va_D A (wM a k mh mn mc ms ml mm mt mo mk mr my mb mf) → va_S A s.heap H locs → lv_has ls 6 [(0, .ref (a 20)), (1, .int x1), (2, .int x2), (3, .int x3), (4, .int x4)] → W p l e (rm_M_expand) s m args below meth c H locs 0 0 (MQ below (qc_M_expand D A a k mh mn mc ms ml mm mt mo mk my mf r) args s 0 0 A) (F0 m 134 ls [.int y0, .long y1, .int y2, .ref (a 26)])
def H_M_expand_87 (p : Program) (l : Launch) (e : Env) (s : State) (m : MethodId) (args : Array Value) (below : List Frame) (meth : Method) (c : Code) (D : va_G) (A : Nat → Prop) (a : Nat → Nat) (k : Nat → ClassId) (mh : Int32) (mn : Int32) (mc : Int32) (ms : Nat → Int32) (ml : Nat → Int32) (mm : Nat → Int32) (mt : Nat → Int32) (mo : Nat → Int32) (mk : Int32) (my : Nat → Int32) (mf : Nat → Int32) (f : Int32 → Int32 → Int32 → Int32 → (Nat → Int64) → (Nat → Int64) → Option ((Nat → Int64) × (Nat → Int64))) : Prop := ∀ (x1 : Int32) (x2 : Int32) (x3 : Int32) (x4 : Int32) (mr : Nat → Int64) (mb : Nat → Int64) (r : (Nat → Int64) × (Nat → Int64)), f x1 x2 x3 x4 mr mb = some r → ∀ (H : Heap) (locs : List Loc) (ls : Array Slot), va_P D classes (wM a k mh mn mc ms ml mm mt mo mk mr my mb mf) H → va_D A (wM a k mh mn mc ms ml mm mt mo mk mr my mb mf) → va_S A s.heap H locs → lv_has ls 6 [(0, .ref (a 20)), (1, .int x1), (2, .int x2), (3, .int x3), (4, .int x4)] → W p l e (rm_M_expand) s m args below meth c H locs 0 0 (MQ below (qc_M_expand D A a k mh mn mc ms ml mm mt mo mk my mf r) args s 0 0 A) (F0 m 87 ls [])
def H_M_expand_43 (p : Program) (l : Launch) (e : Env) (s : State) (m : MethodId) (args : Array Value) (below : List Frame) (meth : Method) (c : Code) (D : va_G) (A : Nat → Prop) (a : Nat → Nat) (k : Nat → ClassId) (mh : Int32) (mn : Int32) (mc : Int32) (ms : Nat → Int32) (ml : Nat → Int32) (mm : Nat → Int32) (mt : Nat → Int32) (mo : Nat → Int32) (mk : Int32) (my : Nat → Int32) (mf : Nat → Int32) (f : Int32 → Int32 → Int32 → Int32 → Int32 → (Nat → Int64) → (Nat → Int64) → Option ((Nat → Int64) × (Nat → Int64))) : Prop := ∀ (x1 : Int32) (x2 : Int32) (x3 : Int32) (x4 : Int32) (x5 : Int32) (mr : Nat → Int64) (mb : Nat → Int64) (r : (Nat → Int64) × (Nat → Int64)), f x1 x2 x3 x4 x5 mr mb = some r → ∀ (H : Heap) (locs : List Loc) (ls : Array Slot), va_P D classes (wM a k mh mn mc ms ml mm mt mo mk mr my mb mf) H → va_D A (wM a k mh mn mc ms ml mm mt mo mk mr my mb mf) → va_S A s.heap H locs → lv_has ls 6 [(0, .ref (a 20)), (1, .int x1), (2, .int x2), (3, .int x3), (4, .int x4), (5, .int x5)] → W p l e (rm_M_expand) s m args below meth c H locs 0 0 (MQ below (qc_M_expand D A a k mh mn mc ms ml mm mt mo mk my mf r) args s 0 0 A) (F0 m 43 ls [])
def H_M_expand_33 (p : Program) (l : Launch) (e : Env) (s : State) (m : MethodId) (args : Array Value) (below : List Frame) (meth : Method) (c : Code) (D : va_G) (A : Nat → Prop) (a : Nat → Nat) (k : Nat → ClassId) (mh : Int32) (mn : Int32) (mc : Int32) (ms : Nat → Int32) (ml : Nat → Int32) (mm : Nat → Int32) (mt : Nat → Int32) (mo : Nat → Int32) (mk : Int32) (my : Nat → Int32) (mf : Nat → Int32) (f : Int32 → Int32 → Int32 → Int32 → (Nat → Int64) → (Nat → Int64) → Option ((Nat → Int64) × (Nat → Int64))) : Prop := ∀ (x1 : Int32) (x2 : Int32) (x3 : Int32) (x4 : Int32) (mr : Nat → Int64) (mb : Nat → Int64) (r : (Nat → Int64) × (Nat → Int64)), f x1 x2 x3 x4 mr mb = some r → ∀ (H : Heap) (locs : List Loc) (ls : Array Slot), va_P D classes (wM a k mh mn mc ms ml mm mt mo mk mr my mb mf) H → va_D A (wM a k mh mn mc ms ml mm mt mo mk mr my mb mf) → va_S A s.heap H locs → lv_has ls 6 [(0, .ref (a 20)), (1, .int x1), (2, .int x2), (3, .int x3), (4, .int x4)] → W p l e (rm_M_expand) s m args below meth c H locs 0 0 (MQ below (qc_M_expand D A a k mh mn mc ms ml mm mt mo mk my mf r) args s 0 0 A) (F0 m 33 ls [])
def H_M_expand_3 (p : Program) (l : Launch) (e : Env) (s : State) (m : MethodId) (args : Array Value) (below : List Frame) (meth : Method) (c : Code) (D : va_G) (A : Nat → Prop) (a : Nat → Nat) (k : Nat → ClassId) (mh : Int32) (mn : Int32) (mc : Int32) (ms : Nat → Int32) (ml : Nat → Int32) (mm : Nat → Int32) (mt : Nat → Int32) (mo : Nat → Int32) (mk : Int32) (my : Nat → Int32) (mf : Nat → Int32) (f : Int32 → Int32 → Int32 → Int32 → (Nat → Int64) → (Nat → Int64) → Option ((Nat → Int64) × (Nat → Int64))) : Prop := ∀ (x1 : Int32) (x2 : Int32) (x3 : Int32) (x4 : Int32) (mr : Nat → Int64) (mb : Nat → Int64) (r : (Nat → Int64) × (Nat → Int64)), f x1 x2 x3 x4 mr mb = some r → ∀ (H : Heap) (locs : List Loc) (ls : Array Slot), va_P D classes (wM a k mh mn mc ms ml mm mt mo mk mr my mb mf) H → va_D A (wM a k mh mn mc ms ml mm mt mo mk mr my mb mf) → va_S A s.heap H locs → lv_has ls 6 [(0, .ref (a 20)), (1, .int x1), (2, .int x2), (3, .int x3), (4, .int x4)] → W p l e (rm_M_expand) s m args below meth c H locs 0 0 (MQ below (qc_M_expand D A a k mh mn mc ms ml mm mt mo mk my mf r) args s 0 0 A) (F0 m 3 ls [])
def H_M_expand_0 (p : Program) (l : Launch) (e : Env) (s : State) (m : MethodId) (args : Array Value) (below : List Frame) (meth : Method) (c : Code) (D : va_G) (A : Nat → Prop) (a : Nat → Nat) (k : Nat → ClassId) (mh : Int32) (mn : Int32) (mc : Int32) (ms : Nat → Int32) (ml : Nat → Int32) (mm : Nat → Int32) (mt : Nat → Int32) (mo : Nat → Int32) (mk : Int32) (my : Nat → Int32) (mf : Nat → Int32) (f : Int32 → Int32 → Int32 → (Nat → Int64) → (Nat → Int64) → Option ((Nat → Int64) × (Nat → Int64))) : Prop := ∀ (x1 : Int32) (x2 : Int32) (x3 : Int32) (mr : Nat → Int64) (mb : Nat → Int64) (r : (Nat → Int64) × (Nat → Int64)), f x1 x2 x3 mr mb = some r → ∀ (H : Heap) (locs : List Loc) (ls : Array Slot), va_P D classes (wM a k mh mn mc ms ml mm mt mo mk mr my mb mf) H → va_D A (wM a k mh mn mc ms ml mm mt mo mk mr my mb mf) → va_S A s.heap H locs → lv_has ls 6 [(0, .ref (a 20)), (1, .int x1), (2, .int x2), (3, .int x3)] → W p l e (rm_M_expand) s m args below meth c H locs 0 0 (MQ below (qc_M_expand D A a k mh mn mc ms ml mm mt mo mk my mf r) args s 0 0 A) (F0 m 0 ls [])
set_option maxHeartbeats 4000000 in
set_option maxRecDepth 100000 in
theorem k_M_expand_134 {p : Program} {l : Launch} {e : Env} {s : State} {m : MethodId} {args : Array Value} {below : List Frame} {meth : Method} {c : Code} {D : va_G} {A : Nat → Prop} {a : Nat → Nat} {k : Nat → ClassId} {mh : Int32} {mn : Int32} {mc : Int32} {ms : Nat → Int32} {ml : Nat → Int32} {mm : Nat → Int32} {mt : Nat → Int32} {mo : Nat → Int32} {mk : Int32} {my : Nat → Int32} {mf : Nat → Int32} {rec87 : Int32 → Int32 → Int32 → Int32 → (Nat → Int64) → (Nat → Int64) → Option ((Nat → Int64) × (Nat → Int64))} (C : cx D [(k 21, .int), (k 22, .int), (k 23, .int), (k 24, .boolean), (k 25, .boolean), (k 26, .long), (k 27, .int), (k 28, .long), (k 29, .int)] R_M b_M_expand 6 none A p s m args meth c) (hrec87 : H_M_expand_87 p l e s m args below meth c D A a k mh mn mc ms ml mm mt mo mk my mf rec87) : H_M_expand_134 p l e s m args below meth c D A a k mh mn mc ms ml mm mt mo mk my mf (J_M_expand_134 rec87) := by
  obtain ⟨hx, hb, hr, hml, hown, ht, hlk, hA, hK⟩ := id C
  intro x1 x2 x3 x4 y0 y1 y2 mr mb r h H locs ls hP hD hS hl
  unfold J_M_expand_134 at h
  refine lv_i2l (v := (y0).toInt64) hx hb d_M_expand_134 rfl ?_
  refine lv_aload_n hx hb d_M_expand_135 rfl (lv_at hl 0 rfl) ?_
  refine va_get (D := D) (ci := 3) (v := .ref (a 28)) (C := R_M) (T := F_M) (N := 13) hx hb ht iC_M hown hK hP 0 rfl rfl 11 (by decide) (ht _ ix_188) (fun _ h9 => h9) rfl d_M_expand_136 ?_
  refine lv_iload hx hb d_M_expand_139 (lv_at hl 4 rfl) ?_
  obtain ⟨g_1, h⟩ := gd_some h
  refine va_lald hx hb hK hP 8 7 rfl rfl (inb_in g_1) d_M_expand_141 ?_
  refine lv_lmul hx hb d_M_expand_142 ?_
  refine lv_ladd hx hb d_M_expand_143 ?_
  obtain ⟨g_2, h⟩ := gd_some h
  refine va_last hx hb hK hP hD hS 6 5 rfl rfl (inb_in g_2) d_M_expand_144 (fun H locs hP hD hS => ?_)
  have hP : va_P D classes (wM a k mh mn mc ms ml mm mt mo mk (vp_updL mr y2.toNatClampNeg (y1 + (((y0).toInt64) * (mb x4.toNatClampNeg)))) my mb mf) H := hP
  have hD : va_D A (wM a k mh mn mc ms ml mm mt mo mk (vp_updL mr y2.toNatClampNeg (y1 + (((y0).toInt64) * (mb x4.toNatClampNeg)))) my mb mf) := hD
  refine lv_iinc (v := x4 + 1) (lv' := [(4, .int (x4 + 1)), (0, .ref (a 20)), (1, .int x1), (2, .int x2), (3, .int x3)]) hx hb d_M_expand_145 hl (k := 4) rfl rfl (by decide) rfl (fun ls hl => ?_)
  refine lv_goto (tgt := 87) hx hb d_M_expand_148 (by decide) ?_
  exact hrec87 _ _ _ _ _ _ _ h _ _ _ hP hD hS (lv_sub hl [1, 2, 3, 4, 0] rfl)
set_option maxHeartbeats 4000000 in
set_option maxRecDepth 100000 in
theorem k_M_expand_87 {p : Program} {l : Launch} {e : Env} {s : State} {m : MethodId} {args : Array Value} {below : List Frame} {meth : Method} {c : Code} {D : va_G} {A : Nat → Prop} {a : Nat → Nat} {k : Nat → ClassId} {mh : Int32} {mn : Int32} {mc : Int32} {ms : Nat → Int32} {ml : Nat → Int32} {mm : Nat → Int32} {mt : Nat → Int32} {mo : Nat → Int32} {mk : Int32} {my : Nat → Int32} {mf : Nat → Int32} {rec87 : Int32 → Int32 → Int32 → Int32 → (Nat → Int64) → (Nat → Int64) → Option ((Nat → Int64) × (Nat → Int64))} (C : cx D [(k 21, .int), (k 22, .int), (k 23, .int), (k 24, .boolean), (k 25, .boolean), (k 26, .long), (k 27, .int), (k 28, .long), (k 29, .int)] R_M b_M_expand 6 none A p s m args meth c) (hrec87 : H_M_expand_87 p l e s m args below meth c D A a k mh mn mc ms ml mm mt mo mk my mf rec87) : H_M_expand_87 p l e s m args below meth c D A a k mh mn mc ms ml mm mt mo mk my mf (J_M_expand_87 rec87) := by
  obtain ⟨hx, hb, hr, hml, hown, ht, hlk, hA, hK⟩ := id C
  intro x1 x2 x3 x4 mr mb r h H locs ls hP hD hS hl
  unfold J_M_expand_87 at h
  refine lv_iload hx hb d_M_expand_87 (lv_at hl 4 rfl) ?_
  refine lv_iload_n hx hb d_M_expand_89 rfl (lv_at hl 3 rfl) ?_
  refine lv_icmp_gt (tgt := 151) hx hb d_M_expand_90 (by decide) (fun c_1 => ?_) (fun c_1 => ?_)
  · have h := ite_T c_1 h
    cases h
    exact W.vret hx hb hr (fun t ht hW => ⟨⟨(), rfl, trivial, by rw [ht]; exact hP, va_K.moved hW.alike hK, hD⟩, hS.F ht⟩) hS.2.2 d_M_expand_151 hlk
  · have h := ite_F c_1 h
    refine lv_sipush (v := 128) hx hb d_M_expand_93 (by decide) ?_
    refine lv_iload_n hx hb d_M_expand_96 rfl (lv_at hl 2 rfl) ?_
    refine lv_iadd hx hb d_M_expand_97 ?_
    refine lv_iconst (v := 2) hx hb d_M_expand_98 (by decide) ?_
    refine lv_iload_n hx hb d_M_expand_99 rfl (lv_at hl 3 rfl) ?_
    refine lv_imul hx hb d_M_expand_100 ?_
    refine lv_iadd hx hb d_M_expand_101 ?_
    refine lv_iconst (v := 4) hx hb d_M_expand_102 (by decide) ?_
    refine lv_iload hx hb d_M_expand_103 (lv_at hl 4 rfl) ?_
    refine lv_imul hx hb d_M_expand_105 ?_
    refine lv_isub hx hb d_M_expand_106 ?_
    refine lv_istore (lv' := [(5, .int ((((128 : Int32) + x2) + ((2 : Int32) * x3)) - ((4 : Int32) * x4))), (0, .ref (a 20)), (1, .int x1), (2, .int x2), (3, .int x3), (4, .int x4)]) hx hb d_M_expand_107 hl (by decide) rfl (fun ls hl => ?_)
    refine lv_aload_n hx hb d_M_expand_109 rfl (lv_at hl 1 rfl) ?_
    refine va_get (D := D) (ci := 3) (v := .ref (a 26)) (C := R_M) (T := F_M) (N := 13) hx hb ht iC_M hown hK hP 0 rfl rfl 9 (by decide) (ht _ ix_189) (fun _ h9 => h9) rfl d_M_expand_110 ?_
    refine lv_iload hx hb d_M_expand_113 (lv_at hl 0 rfl) ?_
    refine lv_aload_n hx hb d_M_expand_115 rfl (lv_at hl 1 rfl) ?_
    refine va_get (D := D) (ci := 3) (v := .ref (a 26)) (C := R_M) (T := F_M) (N := 13) hx hb ht iC_M hown hK hP 0 rfl rfl 9 (by decide) (ht _ ix_189) (fun _ h9 => h9) rfl d_M_expand_116 ?_
    refine lv_iload hx hb d_M_expand_119 (lv_at hl 0 rfl) ?_
    obtain ⟨g_2, h⟩ := gd_some h
    refine va_lald hx hb hK hP 6 5 rfl rfl (inb_in g_2) d_M_expand_121 ?_
    refine lv_iload_n hx hb d_M_expand_122 rfl (lv_at hl 4 rfl) ?_
    refine lv_iconst (v := 2) hx hb d_M_expand_123 (by decide) ?_
    refine lv_irem hx hb d_M_expand_124 (by decide) ?_
    refine lv_if_ne (tgt := 132) hx hb d_M_expand_125 (by decide) (fun c_3 => ?_) (fun c_3 => ?_)
    · have h := ite_F c_3 h
      refine lv_iload_n hx hb d_M_expand_132 rfl (lv_at hl 2 rfl) ?_
      refine lv_ineg hx hb d_M_expand_133 ?_
      exact (k_M_expand_134 C hrec87) _ _ _ _ _ _ _ _ _ _ h _ _ _ hP hD hS (lv_sub hl [1, 2, 3, 4, 5] rfl)
    · have h := ite_T c_3 h
      refine lv_iload_n hx hb d_M_expand_128 rfl (lv_at hl 2 rfl) ?_
      refine lv_goto (tgt := 134) hx hb d_M_expand_129 (by decide) ?_
      exact (k_M_expand_134 C hrec87) _ _ _ _ _ _ _ _ _ _ h _ _ _ hP hD hS (lv_sub hl [1, 2, 3, 4, 5] rfl)
theorem k_M_expand_87_L {p : Program} {l : Launch} {e : Env} {s : State} {m : MethodId} {args : Array Value} {below : List Frame} {meth : Method} {c : Code} {D : va_G} {A : Nat → Prop} {a : Nat → Nat} {k : Nat → ClassId} {mh : Int32} {mn : Int32} {mc : Int32} {ms : Nat → Int32} {ml : Nat → Int32} {mm : Nat → Int32} {mt : Nat → Int32} {mo : Nat → Int32} {mk : Int32} {my : Nat → Int32} {mf : Nat → Int32} (C : cx D [(k 21, .int), (k 22, .int), (k 23, .int), (k 24, .boolean), (k 25, .boolean), (k 26, .long), (k 27, .int), (k 28, .long), (k 29, .int)] R_M b_M_expand 6 none A p s m args meth c) : ∀ n : Nat, H_M_expand_87 p l e s m args below meth c D A a k mh mn mc ms ml mm mt mo mk my mf (L_M_expand_87 n)
  | 0 => fun _ _ _ _ _ _ _ h => nomatch h
  | n + 1 => k_M_expand_87 C (k_M_expand_87_L C n)
set_option maxHeartbeats 4000000 in
set_option maxRecDepth 100000 in
theorem k_M_expand_43 {p : Program} {l : Launch} {e : Env} {s : State} {m : MethodId} {args : Array Value} {below : List Frame} {meth : Method} {c : Code} {D : va_G} {A : Nat → Prop} {a : Nat → Nat} {k : Nat → ClassId} {mh : Int32} {mn : Int32} {mc : Int32} {ms : Nat → Int32} {ml : Nat → Int32} {mm : Nat → Int32} {mt : Nat → Int32} {mo : Nat → Int32} {mk : Int32} {my : Nat → Int32} {mf : Nat → Int32} {rec33 : Int32 → Int32 → Int32 → Int32 → (Nat → Int64) → (Nat → Int64) → Option ((Nat → Int64) × (Nat → Int64))} {rec43 : Int32 → Int32 → Int32 → Int32 → Int32 → (Nat → Int64) → (Nat → Int64) → Option ((Nat → Int64) × (Nat → Int64))} (C : cx D [(k 21, .int), (k 22, .int), (k 23, .int), (k 24, .boolean), (k 25, .boolean), (k 26, .long), (k 27, .int), (k 28, .long), (k 29, .int)] R_M b_M_expand 6 none A p s m args meth c) (hrec33 : H_M_expand_33 p l e s m args below meth c D A a k mh mn mc ms ml mm mt mo mk my mf rec33) (hrec43 : H_M_expand_43 p l e s m args below meth c D A a k mh mn mc ms ml mm mt mo mk my mf rec43) : H_M_expand_43 p l e s m args below meth c D A a k mh mn mc ms ml mm mt mo mk my mf (J_M_expand_43 rec33 rec43) := by
  obtain ⟨hx, hb, hr, hml, hown, ht, hlk, hA, hK⟩ := id C
  intro x1 x2 x3 x4 x5 mr mb r h H locs ls hP hD hS hl
  unfold J_M_expand_43 at h
  refine lv_iload hx hb d_M_expand_43 (lv_at hl 5 rfl) ?_
  refine lv_if_le (tgt := 78) hx hb d_M_expand_45 (by decide) (fun c_1 => ?_) (fun c_1 => ?_)
  · have h := ite_T c_1 h
    refine lv_iinc (v := x4 + 1) (lv' := [(4, .int (x4 + 1)), (0, .ref (a 20)), (1, .int x1), (2, .int x2), (3, .int x3), (5, .int x5)]) hx hb d_M_expand_78 hl (k := 4) rfl rfl (by decide) rfl (fun ls hl => ?_)
    refine lv_goto (tgt := 33) hx hb d_M_expand_81 (by decide) ?_
    exact hrec33 _ _ _ _ _ _ _ h _ _ _ hP hD hS (lv_sub hl [1, 2, 3, 4, 0] rfl)
  · have h := ite_F c_1 h
    refine lv_aload_n hx hb d_M_expand_48 rfl (lv_at hl 0 rfl) ?_
    refine va_get (D := D) (ci := 3) (v := .ref (a 28)) (C := R_M) (T := F_M) (N := 13) hx hb ht iC_M hown hK hP 0 rfl rfl 11 (by decide) (ht _ ix_188) (fun _ h9 => h9) rfl d_M_expand_49 ?_
    refine lv_iload hx hb d_M_expand_52 (lv_at hl 5 rfl) ?_
    refine lv_aload_n hx hb d_M_expand_54 rfl (lv_at hl 0 rfl) ?_
    refine va_get (D := D) (ci := 3) (v := .ref (a 28)) (C := R_M) (T := F_M) (N := 13) hx hb ht iC_M hown hK hP 0 rfl rfl 11 (by decide) (ht _ ix_188) (fun _ h9 => h9) rfl d_M_expand_55 ?_
    refine lv_iload hx hb d_M_expand_58 (lv_at hl 5 rfl) ?_
    obtain ⟨g_2, h⟩ := gd_some h
    refine va_lald hx hb hK hP 8 7 rfl rfl (inb_in g_2) d_M_expand_60 ?_
    refine lv_aload_n hx hb d_M_expand_61 rfl (lv_at hl 0 rfl) ?_
    refine va_get (D := D) (ci := 3) (v := .ref (a 28)) (C := R_M) (T := F_M) (N := 13) hx hb ht iC_M hown hK hP 0 rfl rfl 11 (by decide) (ht _ ix_188) (fun _ h9 => h9) rfl d_M_expand_62 ?_
    refine lv_iload hx hb d_M_expand_65 (lv_at hl 5 rfl) ?_
    refine lv_iconst (v := 1) hx hb d_M_expand_67 (by decide) ?_
    refine lv_isub hx hb d_M_expand_68 ?_
    obtain ⟨g_3, h⟩ := gd_some h
    refine va_lald hx hb hK hP 8 7 rfl rfl (inb_in g_3) d_M_expand_69 ?_
    refine lv_ladd hx hb d_M_expand_70 ?_
    obtain ⟨g_4, h⟩ := gd_some h
    refine va_last hx hb hK hP hD hS 8 7 rfl rfl (inb_in g_4) d_M_expand_71 (fun H locs hP hD hS => ?_)
    have hP : va_P D classes (wM a k mh mn mc ms ml mm mt mo mk mr my (vp_updL mb x5.toNatClampNeg ((mb x5.toNatClampNeg) + (mb (x5 - (1 : Int32)).toNatClampNeg))) mf) H := hP
    have hD : va_D A (wM a k mh mn mc ms ml mm mt mo mk mr my (vp_updL mb x5.toNatClampNeg ((mb x5.toNatClampNeg) + (mb (x5 - (1 : Int32)).toNatClampNeg))) mf) := hD
    refine lv_iinc (v := x5 + (-1)) (lv' := [(5, .int (x5 + (-1))), (0, .ref (a 20)), (1, .int x1), (2, .int x2), (3, .int x3), (4, .int x4)]) hx hb d_M_expand_72 hl (k := 5) rfl rfl (by decide) rfl (fun ls hl => ?_)
    refine lv_goto (tgt := 43) hx hb d_M_expand_75 (by decide) ?_
    exact hrec43 _ _ _ _ _ _ _ _ h _ _ _ hP hD hS (lv_sub hl [1, 2, 3, 4, 5, 0] rfl)
theorem k_M_expand_43_L {p : Program} {l : Launch} {e : Env} {s : State} {m : MethodId} {args : Array Value} {below : List Frame} {meth : Method} {c : Code} {D : va_G} {A : Nat → Prop} {a : Nat → Nat} {k : Nat → ClassId} {mh : Int32} {mn : Int32} {mc : Int32} {ms : Nat → Int32} {ml : Nat → Int32} {mm : Nat → Int32} {mt : Nat → Int32} {mo : Nat → Int32} {mk : Int32} {my : Nat → Int32} {mf : Nat → Int32} {rec33 : Int32 → Int32 → Int32 → Int32 → (Nat → Int64) → (Nat → Int64) → Option ((Nat → Int64) × (Nat → Int64))} (C : cx D [(k 21, .int), (k 22, .int), (k 23, .int), (k 24, .boolean), (k 25, .boolean), (k 26, .long), (k 27, .int), (k 28, .long), (k 29, .int)] R_M b_M_expand 6 none A p s m args meth c) (hrec33 : H_M_expand_33 p l e s m args below meth c D A a k mh mn mc ms ml mm mt mo mk my mf rec33) : ∀ n : Nat, H_M_expand_43 p l e s m args below meth c D A a k mh mn mc ms ml mm mt mo mk my mf (L_M_expand_43 rec33 n)
  | 0 => fun _ _ _ _ _ _ _ _ h => nomatch h
  | n + 1 => k_M_expand_43 C hrec33 (k_M_expand_43_L C hrec33 n)
set_option maxHeartbeats 4000000 in
set_option maxRecDepth 100000 in
theorem k_M_expand_33 {p : Program} {l : Launch} {e : Env} {s : State} {m : MethodId} {args : Array Value} {below : List Frame} {meth : Method} {c : Code} {D : va_G} {A : Nat → Prop} {a : Nat → Nat} {k : Nat → ClassId} {mh : Int32} {mn : Int32} {mc : Int32} {ms : Nat → Int32} {ml : Nat → Int32} {mm : Nat → Int32} {mt : Nat → Int32} {mo : Nat → Int32} {mk : Int32} {my : Nat → Int32} {mf : Nat → Int32} {rec33 : Int32 → Int32 → Int32 → Int32 → (Nat → Int64) → (Nat → Int64) → Option ((Nat → Int64) × (Nat → Int64))} (C : cx D [(k 21, .int), (k 22, .int), (k 23, .int), (k 24, .boolean), (k 25, .boolean), (k 26, .long), (k 27, .int), (k 28, .long), (k 29, .int)] R_M b_M_expand 6 none A p s m args meth c) (hrec33 : H_M_expand_33 p l e s m args below meth c D A a k mh mn mc ms ml mm mt mo mk my mf rec33) : H_M_expand_33 p l e s m args below meth c D A a k mh mn mc ms ml mm mt mo mk my mf (J_M_expand_33 rec33) := by
  obtain ⟨hx, hb, hr, hml, hown, ht, hlk, hA, hK⟩ := id C
  intro x1 x2 x3 x4 mr mb r h H locs ls hP hD hS hl
  unfold J_M_expand_33 at h
  refine lv_iload hx hb d_M_expand_33 (lv_at hl 4 rfl) ?_
  refine lv_iload_n hx hb d_M_expand_35 rfl (lv_at hl 3 rfl) ?_
  refine lv_icmp_gt (tgt := 84) hx hb d_M_expand_36 (by decide) (fun c_1 => ?_) (fun c_1 => ?_)
  · have h := ite_T c_1 h
    refine lv_iconst (v := 0) hx hb d_M_expand_84 (by decide) ?_
    refine lv_istore (lv' := [(4, .int (0 : Int32)), (0, .ref (a 20)), (1, .int x1), (2, .int x2), (3, .int x3)]) hx hb d_M_expand_85 hl (by decide) rfl (fun ls hl => ?_)
    exact (k_M_expand_87_L C fu) _ _ _ _ _ _ _ h _ _ _ hP hD hS (lv_sub hl [1, 2, 3, 4, 0] rfl)
  · have h := ite_F c_1 h
    refine lv_iload hx hb d_M_expand_39 (lv_at hl 4 rfl) ?_
    refine lv_istore (lv' := [(5, .int x4), (0, .ref (a 20)), (1, .int x1), (2, .int x2), (3, .int x3), (4, .int x4)]) hx hb d_M_expand_41 hl (by decide) rfl (fun ls hl => ?_)
    exact (k_M_expand_43_L C hrec33 fu) _ _ _ _ _ _ _ _ h _ _ _ hP hD hS (lv_sub hl [1, 2, 3, 4, 5, 0] rfl)
theorem k_M_expand_33_L {p : Program} {l : Launch} {e : Env} {s : State} {m : MethodId} {args : Array Value} {below : List Frame} {meth : Method} {c : Code} {D : va_G} {A : Nat → Prop} {a : Nat → Nat} {k : Nat → ClassId} {mh : Int32} {mn : Int32} {mc : Int32} {ms : Nat → Int32} {ml : Nat → Int32} {mm : Nat → Int32} {mt : Nat → Int32} {mo : Nat → Int32} {mk : Int32} {my : Nat → Int32} {mf : Nat → Int32} (C : cx D [(k 21, .int), (k 22, .int), (k 23, .int), (k 24, .boolean), (k 25, .boolean), (k 26, .long), (k 27, .int), (k 28, .long), (k 29, .int)] R_M b_M_expand 6 none A p s m args meth c) : ∀ n : Nat, H_M_expand_33 p l e s m args below meth c D A a k mh mn mc ms ml mm mt mo mk my mf (L_M_expand_33 n)
  | 0 => fun _ _ _ _ _ _ _ h => nomatch h
  | n + 1 => k_M_expand_33 C (k_M_expand_33_L C n)
set_option maxHeartbeats 4000000 in
set_option maxRecDepth 100000 in
theorem k_M_expand_3 {p : Program} {l : Launch} {e : Env} {s : State} {m : MethodId} {args : Array Value} {below : List Frame} {meth : Method} {c : Code} {D : va_G} {A : Nat → Prop} {a : Nat → Nat} {k : Nat → ClassId} {mh : Int32} {mn : Int32} {mc : Int32} {ms : Nat → Int32} {ml : Nat → Int32} {mm : Nat → Int32} {mt : Nat → Int32} {mo : Nat → Int32} {mk : Int32} {my : Nat → Int32} {mf : Nat → Int32} {rec3 : Int32 → Int32 → Int32 → Int32 → (Nat → Int64) → (Nat → Int64) → Option ((Nat → Int64) × (Nat → Int64))} (C : cx D [(k 21, .int), (k 22, .int), (k 23, .int), (k 24, .boolean), (k 25, .boolean), (k 26, .long), (k 27, .int), (k 28, .long), (k 29, .int)] R_M b_M_expand 6 none A p s m args meth c) (hrec3 : H_M_expand_3 p l e s m args below meth c D A a k mh mn mc ms ml mm mt mo mk my mf rec3) : H_M_expand_3 p l e s m args below meth c D A a k mh mn mc ms ml mm mt mo mk my mf (J_M_expand_3 rec3) := by
  obtain ⟨hx, hb, hr, hml, hown, ht, hlk, hA, hK⟩ := id C
  intro x1 x2 x3 x4 mr mb r h H locs ls hP hD hS hl
  unfold J_M_expand_3 at h
  refine lv_iload hx hb d_M_expand_3 (lv_at hl 4 rfl) ?_
  refine lv_iload_n hx hb d_M_expand_5 rfl (lv_at hl 3 rfl) ?_
  refine lv_icmp_gt (tgt := 23) hx hb d_M_expand_6 (by decide) (fun c_1 => ?_) (fun c_1 => ?_)
  · have h := ite_T c_1 h
    refine lv_aload_n hx hb d_M_expand_23 rfl (lv_at hl 0 rfl) ?_
    refine va_get (D := D) (ci := 3) (v := .ref (a 28)) (C := R_M) (T := F_M) (N := 13) hx hb ht iC_M hown hK hP 0 rfl rfl 11 (by decide) (ht _ ix_188) (fun _ h9 => h9) rfl d_M_expand_24 ?_
    refine lv_iconst (v := 0) hx hb d_M_expand_27 (by decide) ?_
    refine lv_lconst (v := 1) hx hb d_M_expand_28 (by decide) ?_
    obtain ⟨g_2, h⟩ := gd_some h
    refine va_last hx hb hK hP hD hS 8 7 rfl rfl (inb_in g_2) d_M_expand_29 (fun H locs hP hD hS => ?_)
    have hP : va_P D classes (wM a k mh mn mc ms ml mm mt mo mk mr my (vp_updL mb (0 : Int32).toNatClampNeg (1 : Int64)) mf) H := hP
    have hD : va_D A (wM a k mh mn mc ms ml mm mt mo mk mr my (vp_updL mb (0 : Int32).toNatClampNeg (1 : Int64)) mf) := hD
    refine lv_iconst (v := 1) hx hb d_M_expand_30 (by decide) ?_
    refine lv_istore (lv' := [(4, .int (1 : Int32)), (0, .ref (a 20)), (1, .int x1), (2, .int x2), (3, .int x3)]) hx hb d_M_expand_31 hl (by decide) rfl (fun ls hl => ?_)
    exact (k_M_expand_33_L C fu) _ _ _ _ _ _ _ h _ _ _ hP hD hS (lv_sub hl [1, 2, 3, 4, 0] rfl)
  · have h := ite_F c_1 h
    refine lv_aload_n hx hb d_M_expand_9 rfl (lv_at hl 0 rfl) ?_
    refine va_get (D := D) (ci := 3) (v := .ref (a 28)) (C := R_M) (T := F_M) (N := 13) hx hb ht iC_M hown hK hP 0 rfl rfl 11 (by decide) (ht _ ix_188) (fun _ h9 => h9) rfl d_M_expand_10 ?_
    refine lv_iload hx hb d_M_expand_13 (lv_at hl 4 rfl) ?_
    refine lv_lconst (v := 0) hx hb d_M_expand_15 (by decide) ?_
    obtain ⟨g_3, h⟩ := gd_some h
    refine va_last hx hb hK hP hD hS 8 7 rfl rfl (inb_in g_3) d_M_expand_16 (fun H locs hP hD hS => ?_)
    have hP : va_P D classes (wM a k mh mn mc ms ml mm mt mo mk mr my (vp_updL mb x4.toNatClampNeg (0 : Int64)) mf) H := hP
    have hD : va_D A (wM a k mh mn mc ms ml mm mt mo mk mr my (vp_updL mb x4.toNatClampNeg (0 : Int64)) mf) := hD
    refine lv_iinc (v := x4 + 1) (lv' := [(4, .int (x4 + 1)), (0, .ref (a 20)), (1, .int x1), (2, .int x2), (3, .int x3)]) hx hb d_M_expand_17 hl (k := 4) rfl rfl (by decide) rfl (fun ls hl => ?_)
    refine lv_goto (tgt := 3) hx hb d_M_expand_20 (by decide) ?_
    exact hrec3 _ _ _ _ _ _ _ h _ _ _ hP hD hS (lv_sub hl [1, 2, 3, 4, 0] rfl)
theorem k_M_expand_3_L {p : Program} {l : Launch} {e : Env} {s : State} {m : MethodId} {args : Array Value} {below : List Frame} {meth : Method} {c : Code} {D : va_G} {A : Nat → Prop} {a : Nat → Nat} {k : Nat → ClassId} {mh : Int32} {mn : Int32} {mc : Int32} {ms : Nat → Int32} {ml : Nat → Int32} {mm : Nat → Int32} {mt : Nat → Int32} {mo : Nat → Int32} {mk : Int32} {my : Nat → Int32} {mf : Nat → Int32} (C : cx D [(k 21, .int), (k 22, .int), (k 23, .int), (k 24, .boolean), (k 25, .boolean), (k 26, .long), (k 27, .int), (k 28, .long), (k 29, .int)] R_M b_M_expand 6 none A p s m args meth c) : ∀ n : Nat, H_M_expand_3 p l e s m args below meth c D A a k mh mn mc ms ml mm mt mo mk my mf (L_M_expand_3 n)
  | 0 => fun _ _ _ _ _ _ _ h => nomatch h
  | n + 1 => k_M_expand_3 C (k_M_expand_3_L C n)
set_option maxHeartbeats 4000000 in
set_option maxRecDepth 100000 in
theorem k_M_expand_0 {p : Program} {l : Launch} {e : Env} {s : State} {m : MethodId} {args : Array Value} {below : List Frame} {meth : Method} {c : Code} {D : va_G} {A : Nat → Prop} {a : Nat → Nat} {k : Nat → ClassId} {mh : Int32} {mn : Int32} {mc : Int32} {ms : Nat → Int32} {ml : Nat → Int32} {mm : Nat → Int32} {mt : Nat → Int32} {mo : Nat → Int32} {mk : Int32} {my : Nat → Int32} {mf : Nat → Int32} (C : cx D [(k 21, .int), (k 22, .int), (k 23, .int), (k 24, .boolean), (k 25, .boolean), (k 26, .long), (k 27, .int), (k 28, .long), (k 29, .int)] R_M b_M_expand 6 none A p s m args meth c) : H_M_expand_0 p l e s m args below meth c D A a k mh mn mc ms ml mm mt mo mk my mf (J_M_expand_0) := by
  obtain ⟨hx, hb, hr, hml, hown, ht, hlk, hA, hK⟩ := id C
  intro x1 x2 x3 mr mb r h H locs ls hP hD hS hl
  unfold J_M_expand_0 at h
  refine lv_iconst (v := 0) hx hb d_M_expand_0 (by decide) ?_
  refine lv_istore (lv' := [(4, .int (0 : Int32)), (0, .ref (a 20)), (1, .int x1), (2, .int x2), (3, .int x3)]) hx hb d_M_expand_1 hl (by decide) rfl (fun ls hl => ?_)
  exact (k_M_expand_3_L C fu) _ _ _ _ _ _ _ h _ _ _ hP hD hS (lv_sub hl [1, 2, 3, 4, 0] rfl)
set_option maxRecDepth 20000 in
theorem c_M_expand (l : Launch) (D : va_G) (a : Nat → Nat) (k : Nat → ClassId) (sz : Nat) (x1 : Int32) (x2 : Int32) (x3 : Int32) (mh : Int32) (mn : Int32) (mc : Int32) (ms : Nat → Int32) (ml : Nat → Int32) (mm : Nat → Int32) (mt : Nat → Int32) (mo : Nat → Int32) (mk : Int32) (mr : Nat → Int64) (my : Nat → Int32) (mb : Nat → Int64) (mf : Nat → Int32) (r : (Nat → Int64) × (Nat → Int64)) (h : F_M_expand x1 x2 x3 mr mb = some r) : Met l y_M_expand (Cond.code y_M_expand b_M_expand 6 none :: lw_g) (rm_M_expand) (va_Pc [.ref (a 20), .int x1, .int x2, .int x3] (pcW D [(k 21, .int), (k 22, .int), (k 23, .int), (k 24, .boolean), (k 25, .boolean), (k 26, .long), (k 27, .int), (k 28, .long), (k 29, .int)] (wM a k mh mn mc ms ml mm mt mo mk mr my mb mf) sz)) (qc_M_expand D (va_A (wM a k mh mn mc ms ml mm mt mo mk mr my mb mf) sz) a k mh mn mc ms ml mm mt mo mk my mf r) 0 0 (va_A (wM a k mh mn mc ms ml mm mt mo mk mr my mb mf) sz) := by
  refine Met.ofW (cc := b_M_expand) (maxL := 6) (ret := none) (by decide) rfl ?_
  intro p e s m args below meth c s₁ B hml hv
  obtain ⟨rfl, hsz, hP, hK, hD0⟩ := hv
  have hts := atoms_spec (ws := Cond.code y_M_expand b_M_expand 6 none :: lw_g) B.pre
  subst hsz
  have hD := hD0.self (sz := s.heap.size)
  have hl := lv_entry ([.ref (a 20), .int x1, .int x2, .int x3]) (n := 6) (Nat.le_of_ble_eq_true rfl)
  rw [lg_entry_eq]
  generalize (lg_sl ([.ref (a 20), .int x1, .int x2, .int x3]) ++ List.replicate (6 - (lg_sl ([.ref (a 20), .int x1, .int x2, .int x3])).length) Slot.unset).toArray = ls at hl ⊢
  exact k_M_expand_0 ⟨B.exec, B.bytes, B.returns, hml, findClass_of_methodNamed B.named, fun w hw => hts w (List.mem_cons_of_mem _ hw), B.notSynchronized, fun q h => Or.inr h, hK⟩ _ _ _ _ _ _ h _ _ _ hP hD va_S.rf hl

def rm_M_know : Room := { frames := 2, cells := 0, slots := 0, locals := 47 }
def qc_M_know (D : va_G) (A : Nat → Prop) (a : Nat → Nat) (k : Nat → ClassId) (mh : Int32) (mn : Int32) (mc : Int32) (ms : Nat → Int32) (ml : Nat → Int32) (mo : Nat → Int32) (mf : Nat → Int32) (r : (Nat → Int32) × (Nat → Int32) × Int32 × (Nat → Int64) × (Nat → Int32) × (Nat → Int64)) : Array Value → State → Outcome → State → Prop := va_Qv (fun (_ : Unit) => True) (poW D [(k 21, .int), (k 22, .int), (k 23, .int), (k 24, .boolean), (k 25, .boolean), (k 26, .long), (k 27, .int), (k 28, .long), (k 29, .int)] (wM a k mh mn mc ms ml r.1 r.2.1 mo r.2.2.1 r.2.2.2.1 r.2.2.2.2.1 r.2.2.2.2.2 mf) A) A
def J_M_know_143 (rec143 : Int32 → Int32 → Int32 → (Nat → Int32) → (Nat → Int32) → (Nat → Int32) → Int32 → (Nat → Int64) → (Nat → Int32) → (Nat → Int64) → Option ((Nat → Int32) × (Nat → Int32) × Int32 × (Nat → Int64) × (Nat → Int32) × (Nat → Int64))) (x1 : Int32) (mn : Int32) (mc : Int32) (ml : Nat → Int32) (mm : Nat → Int32) (mt : Nat → Int32) (mk : Int32) (mr : Nat → Int64) (my : Nat → Int32) (mb : Nat → Int64) : Option ((Nat → Int32) × (Nat → Int32) × Int32 × (Nat → Int64) × (Nat → Int32) × (Nat → Int64)) :=
  (if (672 : Int32) ≤ x1 then some (mm, mt, mk, mr, my, mb) else (if inb x1 672 then (if (my x1.toNatClampNeg) ≤ 0 then rec143 (x1 + 1) mn mc ml mm mt mk mr my mb else (if inb x1 672 then (Option.bind (F_M_expand (my x1.toNatClampNeg) ((x1 / (32 : Int32)) - (10 : Int32)) ((x1 - x1 / (32 : Int32) * (32 : Int32)) - (1 : Int32)) mr mb) (fun v_5 => rec143 (x1 + 1) mn mc ml mm mt mk v_5.1 my v_5.2)) else none)) else none))
def L_M_know_143 : Nat → Int32 → Int32 → Int32 → (Nat → Int32) → (Nat → Int32) → (Nat → Int32) → Int32 → (Nat → Int64) → (Nat → Int32) → (Nat → Int64) → Option ((Nat → Int32) × (Nat → Int32) × Int32 × (Nat → Int64) × (Nat → Int32) × (Nat → Int64))
  | 0 => fun _ _ _ _ _ _ _ _ _ _ => none
  | n + 1 => J_M_know_143 (L_M_know_143 n)
def J_M_know_93 (rec93 : Int32 → Int32 → Int32 → (Nat → Int32) → (Nat → Int32) → (Nat → Int32) → Int32 → (Nat → Int64) → (Nat → Int32) → (Nat → Int64) → Option ((Nat → Int32) × (Nat → Int32) × Int32 × (Nat → Int64) × (Nat → Int32) × (Nat → Int64))) (x1 : Int32) (mn : Int32) (mc : Int32) (ml : Nat → Int32) (mm : Nat → Int32) (mt : Nat → Int32) (mk : Int32) (mr : Nat → Int64) (my : Nat → Int32) (mb : Nat → Int64) : Option ((Nat → Int32) × (Nat → Int32) × Int32 × (Nat → Int64) × (Nat → Int32) × (Nat → Int64)) :=
  (if ((1 : Int32) <<< (mn &&& 31)) ≤ x1 then L_M_know_143 fu (0 : Int32) mn mc ml mm mt mk mr my mb else (Option.bind (F_M_bits x1) (fun v_2 => (Option.bind (F_M_ways x1 mn mc mm mt) (fun v_3 => (if inb (((32 : Int32) * ((mn - ((2 : Int32) * v_2)) + (10 : Int32))) + v_3.1) 672 then (if inb (((32 : Int32) * ((mn - ((2 : Int32) * v_2)) + (10 : Int32))) + v_3.1) 672 then rec93 (x1 + 1) mn mc ml mm v_3.2 mk mr (upd my (((32 : Int32) * ((mn - ((2 : Int32) * v_2)) + (10 : Int32))) + v_3.1).toNatClampNeg ((my (((32 : Int32) * ((mn - ((2 : Int32) * v_2)) + (10 : Int32))) + v_3.1).toNatClampNeg) + (1 : Int32))) mb else none) else none))))))
def L_M_know_93 : Nat → Int32 → Int32 → Int32 → (Nat → Int32) → (Nat → Int32) → (Nat → Int32) → Int32 → (Nat → Int64) → (Nat → Int32) → (Nat → Int64) → Option ((Nat → Int32) × (Nat → Int32) × Int32 × (Nat → Int64) × (Nat → Int32) × (Nat → Int64))
  | 0 => fun _ _ _ _ _ _ _ _ _ _ => none
  | n + 1 => J_M_know_93 (L_M_know_93 n)
def J_M_know_71 (rec71 : Int32 → Int32 → Int32 → (Nat → Int32) → (Nat → Int32) → (Nat → Int32) → Int32 → (Nat → Int64) → (Nat → Int32) → (Nat → Int64) → Option ((Nat → Int32) × (Nat → Int32) × Int32 × (Nat → Int64) × (Nat → Int32) × (Nat → Int64))) (x1 : Int32) (mn : Int32) (mc : Int32) (ml : Nat → Int32) (mm : Nat → Int32) (mt : Nat → Int32) (mk : Int32) (mr : Nat → Int64) (my : Nat → Int32) (mb : Nat → Int64) : Option ((Nat → Int32) × (Nat → Int32) × Int32 × (Nat → Int64) × (Nat → Int32) × (Nat → Int64)) :=
  (if (672 : Int32) ≤ x1 then L_M_know_93 fu (0 : Int32) mn mc ml mm mt mk mr my mb else (if inb x1 672 then rec71 (x1 + 1) mn mc ml mm mt mk mr (upd my x1.toNatClampNeg (0 : Int32)) mb else none))
def L_M_know_71 : Nat → Int32 → Int32 → Int32 → (Nat → Int32) → (Nat → Int32) → (Nat → Int32) → Int32 → (Nat → Int64) → (Nat → Int32) → (Nat → Int64) → Option ((Nat → Int32) × (Nat → Int32) × Int32 × (Nat → Int64) × (Nat → Int32) × (Nat → Int64))
  | 0 => fun _ _ _ _ _ _ _ _ _ _ => none
  | n + 1 => J_M_know_71 (L_M_know_71 n)
def J_M_know_15 (rec15 : Int32 → Int32 → Int32 → (Nat → Int32) → (Nat → Int32) → (Nat → Int32) → Int32 → (Nat → Int64) → (Nat → Int32) → (Nat → Int64) → Option ((Nat → Int32) × (Nat → Int32) × Int32 × (Nat → Int64) × (Nat → Int32) × (Nat → Int64))) (x1 : Int32) (mn : Int32) (mc : Int32) (ml : Nat → Int32) (mm : Nat → Int32) (mt : Nat → Int32) (mk : Int32) (mr : Nat → Int64) (my : Nat → Int32) (mb : Nat → Int64) : Option ((Nat → Int32) × (Nat → Int32) × Int32 × (Nat → Int64) × (Nat → Int32) × (Nat → Int64)) :=
  (if (260 : Int32) ≤ x1 then (Option.bind (F_M_fault mn ml) (fun v_2 => (if v_2 ≤ 0 then (if (mn + mc) = 0 then (if inb (128 : Int32) 260 then some (mm, mt, mk, (vp_updL mr (128 : Int32).toNatClampNeg (1 : Int64)), my, mb) else none) else (Option.bind (F_M_findMates mn ml mm) (fun v_5 => L_M_know_71 fu (0 : Int32) mn mc ml v_5 mt mk mr my mb))) else some (mm, mt, mk, mr, my, mb)))) else (if inb x1 260 then rec15 (x1 + 1) mn mc ml mm mt mk (vp_updL mr x1.toNatClampNeg (0 : Int64)) my mb else none))
def L_M_know_15 : Nat → Int32 → Int32 → Int32 → (Nat → Int32) → (Nat → Int32) → (Nat → Int32) → Int32 → (Nat → Int64) → (Nat → Int32) → (Nat → Int64) → Option ((Nat → Int32) × (Nat → Int32) × Int32 × (Nat → Int64) × (Nat → Int32) × (Nat → Int64))
  | 0 => fun _ _ _ _ _ _ _ _ _ _ => none
  | n + 1 => J_M_know_15 (L_M_know_15 n)
def J_M_know_0 (mn : Int32) (mc : Int32) (ml : Nat → Int32) (mm : Nat → Int32) (mt : Nat → Int32) (mk : Int32) (mr : Nat → Int64) (my : Nat → Int32) (mb : Nat → Int64) : Option ((Nat → Int32) × (Nat → Int32) × Int32 × (Nat → Int64) × (Nat → Int32) × (Nat → Int64)) :=
  (if mk = 0 then L_M_know_15 fu (0 : Int32) mn mc ml mm mt (1 : Int32) mr my mb else some (mm, mt, mk, mr, my, mb))
def F_M_know (mn : Int32) (mc : Int32) (ml : Nat → Int32) (mm : Nat → Int32) (mt : Nat → Int32) (mk : Int32) (mr : Nat → Int64) (my : Nat → Int32) (mb : Nat → Int64) : Option ((Nat → Int32) × (Nat → Int32) × Int32 × (Nat → Int64) × (Nat → Int32) × (Nat → Int64)) := J_M_know_0 mn mc ml mm mt mk mr my mb
def H_M_know_143 (p : Program) (l : Launch) (e : Env) (s : State) (m : MethodId) (args : Array Value) (below : List Frame) (meth : Method) (c : Code) (D : va_G) (A : Nat → Prop) (a : Nat → Nat) (k : Nat → ClassId) (mh : Int32) (ms : Nat → Int32) (mo : Nat → Int32) (mf : Nat → Int32) (f : Int32 → Int32 → Int32 → (Nat → Int32) → (Nat → Int32) → (Nat → Int32) → Int32 → (Nat → Int64) → (Nat → Int32) → (Nat → Int64) → Option ((Nat → Int32) × (Nat → Int32) × Int32 × (Nat → Int64) × (Nat → Int32) × (Nat → Int64))) : Prop := ∀ (x1 : Int32) (mn : Int32) (mc : Int32) (ml : Nat → Int32) (mm : Nat → Int32) (mt : Nat → Int32) (mk : Int32) (mr : Nat → Int64) (my : Nat → Int32) (mb : Nat → Int64) (r : (Nat → Int32) × (Nat → Int32) × Int32 × (Nat → Int64) × (Nat → Int32) × (Nat → Int64)), f x1 mn mc ml mm mt mk mr my mb = some r → ∀ (H : Heap) (locs : List Loc) (ls : Array Slot), va_P D classes (wM a k mh mn mc ms ml mm mt mo mk mr my mb mf) H → va_D A (wM a k mh mn mc ms ml mm mt mo mk mr my mb mf) → va_S A s.heap H locs → lv_has ls 2 [(0, .ref (a 20)), (1, .int x1)] → W p l e (rm_M_know) s m args below meth c H locs 0 0 (MQ below (qc_M_know D A a k mh mn mc ms ml mo mf r) args s 0 0 A) (F0 m 143 ls [])
def H_M_know_93 (p : Program) (l : Launch) (e : Env) (s : State) (m : MethodId) (args : Array Value) (below : List Frame) (meth : Method) (c : Code) (D : va_G) (A : Nat → Prop) (a : Nat → Nat) (k : Nat → ClassId) (mh : Int32) (ms : Nat → Int32) (mo : Nat → Int32) (mf : Nat → Int32) (f : Int32 → Int32 → Int32 → (Nat → Int32) → (Nat → Int32) → (Nat → Int32) → Int32 → (Nat → Int64) → (Nat → Int32) → (Nat → Int64) → Option ((Nat → Int32) × (Nat → Int32) × Int32 × (Nat → Int64) × (Nat → Int32) × (Nat → Int64))) : Prop := ∀ (x1 : Int32) (mn : Int32) (mc : Int32) (ml : Nat → Int32) (mm : Nat → Int32) (mt : Nat → Int32) (mk : Int32) (mr : Nat → Int64) (my : Nat → Int32) (mb : Nat → Int64) (r : (Nat → Int32) × (Nat → Int32) × Int32 × (Nat → Int64) × (Nat → Int32) × (Nat → Int64)), f x1 mn mc ml mm mt mk mr my mb = some r → ∀ (H : Heap) (locs : List Loc) (ls : Array Slot), va_P D classes (wM a k mh mn mc ms ml mm mt mo mk mr my mb mf) H → va_D A (wM a k mh mn mc ms ml mm mt mo mk mr my mb mf) → va_S A s.heap H locs → lv_has ls 2 [(0, .ref (a 20)), (1, .int x1)] → W p l e (rm_M_know) s m args below meth c H locs 0 0 (MQ below (qc_M_know D A a k mh mn mc ms ml mo mf r) args s 0 0 A) (F0 m 93 ls [])
def H_M_know_71 (p : Program) (l : Launch) (e : Env) (s : State) (m : MethodId) (args : Array Value) (below : List Frame) (meth : Method) (c : Code) (D : va_G) (A : Nat → Prop) (a : Nat → Nat) (k : Nat → ClassId) (mh : Int32) (ms : Nat → Int32) (mo : Nat → Int32) (mf : Nat → Int32) (f : Int32 → Int32 → Int32 → (Nat → Int32) → (Nat → Int32) → (Nat → Int32) → Int32 → (Nat → Int64) → (Nat → Int32) → (Nat → Int64) → Option ((Nat → Int32) × (Nat → Int32) × Int32 × (Nat → Int64) × (Nat → Int32) × (Nat → Int64))) : Prop := ∀ (x1 : Int32) (mn : Int32) (mc : Int32) (ml : Nat → Int32) (mm : Nat → Int32) (mt : Nat → Int32) (mk : Int32) (mr : Nat → Int64) (my : Nat → Int32) (mb : Nat → Int64) (r : (Nat → Int32) × (Nat → Int32) × Int32 × (Nat → Int64) × (Nat → Int32) × (Nat → Int64)), f x1 mn mc ml mm mt mk mr my mb = some r → ∀ (H : Heap) (locs : List Loc) (ls : Array Slot), va_P D classes (wM a k mh mn mc ms ml mm mt mo mk mr my mb mf) H → va_D A (wM a k mh mn mc ms ml mm mt mo mk mr my mb mf) → va_S A s.heap H locs → lv_has ls 2 [(0, .ref (a 20)), (1, .int x1)] → W p l e (rm_M_know) s m args below meth c H locs 0 0 (MQ below (qc_M_know D A a k mh mn mc ms ml mo mf r) args s 0 0 A) (F0 m 71 ls [])
def H_M_know_15 (p : Program) (l : Launch) (e : Env) (s : State) (m : MethodId) (args : Array Value) (below : List Frame) (meth : Method) (c : Code) (D : va_G) (A : Nat → Prop) (a : Nat → Nat) (k : Nat → ClassId) (mh : Int32) (ms : Nat → Int32) (mo : Nat → Int32) (mf : Nat → Int32) (f : Int32 → Int32 → Int32 → (Nat → Int32) → (Nat → Int32) → (Nat → Int32) → Int32 → (Nat → Int64) → (Nat → Int32) → (Nat → Int64) → Option ((Nat → Int32) × (Nat → Int32) × Int32 × (Nat → Int64) × (Nat → Int32) × (Nat → Int64))) : Prop := ∀ (x1 : Int32) (mn : Int32) (mc : Int32) (ml : Nat → Int32) (mm : Nat → Int32) (mt : Nat → Int32) (mk : Int32) (mr : Nat → Int64) (my : Nat → Int32) (mb : Nat → Int64) (r : (Nat → Int32) × (Nat → Int32) × Int32 × (Nat → Int64) × (Nat → Int32) × (Nat → Int64)), f x1 mn mc ml mm mt mk mr my mb = some r → ∀ (H : Heap) (locs : List Loc) (ls : Array Slot), va_P D classes (wM a k mh mn mc ms ml mm mt mo mk mr my mb mf) H → va_D A (wM a k mh mn mc ms ml mm mt mo mk mr my mb mf) → va_S A s.heap H locs → lv_has ls 2 [(0, .ref (a 20)), (1, .int x1)] → W p l e (rm_M_know) s m args below meth c H locs 0 0 (MQ below (qc_M_know D A a k mh mn mc ms ml mo mf r) args s 0 0 A) (F0 m 15 ls [])
def H_M_know_0 (p : Program) (l : Launch) (e : Env) (s : State) (m : MethodId) (args : Array Value) (below : List Frame) (meth : Method) (c : Code) (D : va_G) (A : Nat → Prop) (a : Nat → Nat) (k : Nat → ClassId) (mh : Int32) (ms : Nat → Int32) (mo : Nat → Int32) (mf : Nat → Int32) (f : Int32 → Int32 → (Nat → Int32) → (Nat → Int32) → (Nat → Int32) → Int32 → (Nat → Int64) → (Nat → Int32) → (Nat → Int64) → Option ((Nat → Int32) × (Nat → Int32) × Int32 × (Nat → Int64) × (Nat → Int32) × (Nat → Int64))) : Prop := ∀ (mn : Int32) (mc : Int32) (ml : Nat → Int32) (mm : Nat → Int32) (mt : Nat → Int32) (mk : Int32) (mr : Nat → Int64) (my : Nat → Int32) (mb : Nat → Int64) (r : (Nat → Int32) × (Nat → Int32) × Int32 × (Nat → Int64) × (Nat → Int32) × (Nat → Int64)), f mn mc ml mm mt mk mr my mb = some r → ∀ (H : Heap) (locs : List Loc) (ls : Array Slot), va_P D classes (wM a k mh mn mc ms ml mm mt mo mk mr my mb mf) H → va_D A (wM a k mh mn mc ms ml mm mt mo mk mr my mb mf) → va_S A s.heap H locs → lv_has ls 2 [(0, .ref (a 20))] → W p l e (rm_M_know) s m args below meth c H locs 0 0 (MQ below (qc_M_know D A a k mh mn mc ms ml mo mf r) args s 0 0 A) (F0 m 0 ls [])
set_option maxHeartbeats 4000000 in
set_option maxRecDepth 100000 in
theorem k_M_know_143 {p : Program} {l : Launch} {e : Env} {s : State} {m : MethodId} {args : Array Value} {below : List Frame} {meth : Method} {c : Code} {D : va_G} {A : Nat → Prop} {a : Nat → Nat} {k : Nat → ClassId} {mh : Int32} {ms : Nat → Int32} {mo : Nat → Int32} {mf : Nat → Int32} {rec143 : Int32 → Int32 → Int32 → (Nat → Int32) → (Nat → Int32) → (Nat → Int32) → Int32 → (Nat → Int64) → (Nat → Int32) → (Nat → Int64) → Option ((Nat → Int32) × (Nat → Int32) × Int32 × (Nat → Int64) × (Nat → Int32) × (Nat → Int64))} (C : cx D [(k 21, .int), (k 22, .int), (k 23, .int), (k 24, .boolean), (k 25, .boolean), (k 26, .long), (k 27, .int), (k 28, .long), (k 29, .int)] R_M b_M_know 2 none A p s m args meth c) (hrec143 : H_M_know_143 p l e s m args below meth c D A a k mh ms mo mf rec143) : H_M_know_143 p l e s m args below meth c D A a k mh ms mo mf (J_M_know_143 rec143) := by
  obtain ⟨hx, hb, hr, hml, hown, ht, hlk, hA, hK⟩ := id C
  intro x1 mn mc ml mm mt mk mr my mb r h H locs ls hP hD hS hl
  unfold J_M_know_143 at h
  refine lv_iload_n hx hb d_M_know_143 rfl (lv_at hl 1 rfl) ?_
  refine lv_sipush (v := 672) hx hb d_M_know_144 (by decide) ?_
  refine lv_icmp_ge (tgt := 188) hx hb d_M_know_147 (by decide) (fun c_1 => ?_) (fun c_1 => ?_)
  · have h := ite_T c_1 h
    cases h
    exact W.vret hx hb hr (fun t ht hW => ⟨⟨(), rfl, trivial, by rw [ht]; exact hP, va_K.moved hW.alike hK, hD⟩, hS.F ht⟩) hS.2.2 d_M_know_188 hlk
  · have h := ite_F c_1 h
    refine lv_aload_n hx hb d_M_know_150 rfl (lv_at hl 0 rfl) ?_
    refine va_get (D := D) (ci := 3) (v := .ref (a 27)) (C := R_M) (T := F_M) (N := 13) hx hb ht iC_M hown hK hP 0 rfl rfl 10 (by decide) (ht _ ix_191) (fun _ h9 => h9) rfl d_M_know_151 ?_
    refine lv_iload_n hx hb d_M_know_154 rfl (lv_at hl 1 rfl) ?_
    obtain ⟨g_2, h⟩ := gd_some h
    refine va_iald hx hb hK hP 7 6 rfl rfl (inb_in g_2) d_M_know_155 ?_
    refine lv_if_le (tgt := 182) hx hb d_M_know_156 (by decide) (fun c_3 => ?_) (fun c_3 => ?_)
    · have h := ite_T c_3 h
      refine lv_iinc (v := x1 + 1) (lv' := [(1, .int (x1 + 1)), (0, .ref (a 20))]) hx hb d_M_know_182 hl (k := 1) rfl rfl (by decide) rfl (fun ls hl => ?_)
      refine lv_goto (tgt := 143) hx hb d_M_know_185 (by decide) ?_
      exact hrec143 _ _ _ _ _ _ _ _ _ _ _ h _ _ _ hP hD hS (lv_sub hl [1, 0] rfl)
    · have h := ite_F c_3 h
      refine lv_aload_n hx hb d_M_know_159 rfl (lv_at hl 0 rfl) ?_
      refine lv_aload_n hx hb d_M_know_160 rfl (lv_at hl 0 rfl) ?_
      refine va_get (D := D) (ci := 3) (v := .ref (a 27)) (C := R_M) (T := F_M) (N := 13) hx hb ht iC_M hown hK hP 0 rfl rfl 10 (by decide) (ht _ ix_191) (fun _ h9 => h9) rfl d_M_know_161 ?_
      refine lv_iload_n hx hb d_M_know_164 rfl (lv_at hl 1 rfl) ?_
      obtain ⟨g_4, h⟩ := gd_some h
      refine va_iald hx hb hK hP 7 6 rfl rfl (inb_in g_4) d_M_know_165 ?_
      refine lv_iload_n hx hb d_M_know_166 rfl (lv_at hl 1 rfl) ?_
      refine lv_bipush (v := 32) hx hb d_M_know_167 (by decide) ?_
      refine lv_idiv hx hb d_M_know_169 (by decide) ?_
      refine lv_bipush (v := 10) hx hb d_M_know_170 (by decide) ?_
      refine lv_isub hx hb d_M_know_172 ?_
      refine lv_iload_n hx hb d_M_know_173 rfl (lv_at hl 1 rfl) ?_
      refine lv_bipush (v := 32) hx hb d_M_know_174 (by decide) ?_
      refine lv_irem hx hb d_M_know_176 (by decide) ?_
      refine lv_iconst (v := 1) hx hb d_M_know_177 (by decide) ?_
      refine lv_isub hx hb d_M_know_178 ?_
      obtain ⟨v_5, e_5, h⟩ := bd_some h
      refine go_Vv (As := [.int (my x1.toNatClampNeg), .int ((x1 / (32 : Int32)) - (10 : Int32)), .int ((x1 - x1 / (32 : Int32) * (32 : Int32)) - (1 : Int32))]) (rest := []) (wc := (wM a k mh mn mc ms ml mm mt mo mk mr my mb mf)) (wr := []) (w1 := (wM a k mh mn mc ms ml mm mt mo mk v_5.1 my v_5.2 mf)) (w2 := (wM a k mh mn mc ms ml mm mt mo mk v_5.1 my v_5.2 mf)) (tc := [(k 21, .int), (k 22, .int), (k 23, .int), (k 24, .boolean), (k 25, .boolean), (k 26, .long), (k 27, .int), (k 28, .long), (k 29, .int)]) hx hb hml hown ht (c_M_expand l D a k H.size (my x1.toNatClampNeg) ((x1 / (32 : Int32)) - (10 : Int32)) ((x1 - x1 / (32 : Int32) * (32 : Int32)) - (1 : Int32)) mh mn mc ms ml mm mt mo mk mr my mb mf v_5 e_5) g_M_74 ⟨rfl, rfl⟩ (n := 3) (by decide +kernel) ⟨(Nat.le_of_ble_eq_true rfl), (Nat.le_of_ble_eq_true rfl)⟩ hP hD hK hS hA ⟨Nat.zero_le _, Nat.zero_le _⟩ [0, 1, 2, 3, 4, 5, 6, 7, 8, 9] [] [0, 1, 2, 3, 4, 5, 6, 7, 8] [0, 1, 2, 3, 4, 5, 6, 7, 8, 9] rfl rfl rfl rfl (by decide) (by decide) (by decide) rfl (by decide) 0 rfl rfl rfl rfl rfl hl.1 (Nat.le_of_ble_eq_true rfl) d_M_know_179 (fun H locs hP hD hS => ?_)
      refine lv_iinc (v := x1 + 1) (lv' := [(1, .int (x1 + 1)), (0, .ref (a 20))]) hx hb d_M_know_182 hl (k := 1) rfl rfl (by decide) rfl (fun ls hl => ?_)
      refine lv_goto (tgt := 143) hx hb d_M_know_185 (by decide) ?_
      exact hrec143 _ _ _ _ _ _ _ _ _ _ _ h _ _ _ hP hD hS (lv_sub hl [1, 0] rfl)
theorem k_M_know_143_L {p : Program} {l : Launch} {e : Env} {s : State} {m : MethodId} {args : Array Value} {below : List Frame} {meth : Method} {c : Code} {D : va_G} {A : Nat → Prop} {a : Nat → Nat} {k : Nat → ClassId} {mh : Int32} {ms : Nat → Int32} {mo : Nat → Int32} {mf : Nat → Int32} (C : cx D [(k 21, .int), (k 22, .int), (k 23, .int), (k 24, .boolean), (k 25, .boolean), (k 26, .long), (k 27, .int), (k 28, .long), (k 29, .int)] R_M b_M_know 2 none A p s m args meth c) : ∀ n : Nat, H_M_know_143 p l e s m args below meth c D A a k mh ms mo mf (L_M_know_143 n)
  | 0 => fun _ _ _ _ _ _ _ _ _ _ _ h => nomatch h
  | n + 1 => k_M_know_143 C (k_M_know_143_L C n)
set_option maxHeartbeats 4000000 in
set_option maxRecDepth 100000 in
theorem k_M_know_93 {p : Program} {l : Launch} {e : Env} {s : State} {m : MethodId} {args : Array Value} {below : List Frame} {meth : Method} {c : Code} {D : va_G} {A : Nat → Prop} {a : Nat → Nat} {k : Nat → ClassId} {mh : Int32} {ms : Nat → Int32} {mo : Nat → Int32} {mf : Nat → Int32} {rec93 : Int32 → Int32 → Int32 → (Nat → Int32) → (Nat → Int32) → (Nat → Int32) → Int32 → (Nat → Int64) → (Nat → Int32) → (Nat → Int64) → Option ((Nat → Int32) × (Nat → Int32) × Int32 × (Nat → Int64) × (Nat → Int32) × (Nat → Int64))} (C : cx D [(k 21, .int), (k 22, .int), (k 23, .int), (k 24, .boolean), (k 25, .boolean), (k 26, .long), (k 27, .int), (k 28, .long), (k 29, .int)] R_M b_M_know 2 none A p s m args meth c) (hrec93 : H_M_know_93 p l e s m args below meth c D A a k mh ms mo mf rec93) : H_M_know_93 p l e s m args below meth c D A a k mh ms mo mf (J_M_know_93 rec93) := by
  obtain ⟨hx, hb, hr, hml, hown, ht, hlk, hA, hK⟩ := id C
  intro x1 mn mc ml mm mt mk mr my mb r h H locs ls hP hD hS hl
  unfold J_M_know_93 at h
  refine lv_iload_n hx hb d_M_know_93 rfl (lv_at hl 1 rfl) ?_
  refine lv_iconst (v := 1) hx hb d_M_know_94 (by decide) ?_
  refine lv_aload_n hx hb d_M_know_95 rfl (lv_at hl 0 rfl) ?_
  refine va_get (D := D) (ci := 3) (v := .int mn) (C := R_M) (T := F_M) (N := 13) hx hb ht iC_M hown hK hP 0 rfl rfl 1 (by decide) (ht _ ix_163) (fun _ h9 => h9) rfl d_M_know_96 ?_
  refine lv_ishl hx hb d_M_know_99 ?_
  refine lv_icmp_ge (tgt := 141) hx hb d_M_know_100 (by decide) (fun c_1 => ?_) (fun c_1 => ?_)
  · have h := ite_T c_1 h
    refine lv_iconst (v := 0) hx hb d_M_know_141 (by decide) ?_
    refine lv_istore_n (lv' := [(1, .int (0 : Int32)), (0, .ref (a 20))]) hx hb d_M_know_142 rfl hl (by decide) rfl (fun ls hl => ?_)
    exact (k_M_know_143_L C fu) _ _ _ _ _ _ _ _ _ _ _ h _ _ _ hP hD hS (lv_sub hl [1, 0] rfl)
  · have h := ite_F c_1 h
    refine lv_aload_n hx hb d_M_know_103 rfl (lv_at hl 0 rfl) ?_
    refine va_get (D := D) (ci := 3) (v := .ref (a 27)) (C := R_M) (T := F_M) (N := 13) hx hb ht iC_M hown hK hP 0 rfl rfl 10 (by decide) (ht _ ix_191) (fun _ h9 => h9) rfl d_M_know_104 ?_
    refine lv_bipush (v := 32) hx hb d_M_know_107 (by decide) ?_
    refine lv_aload_n hx hb d_M_know_109 rfl (lv_at hl 0 rfl) ?_
    refine va_get (D := D) (ci := 3) (v := .int mn) (C := R_M) (T := F_M) (N := 13) hx hb ht iC_M hown hK hP 0 rfl rfl 1 (by decide) (ht _ ix_163) (fun _ h9 => h9) rfl d_M_know_110 ?_
    refine lv_iconst (v := 2) hx hb d_M_know_113 (by decide) ?_
    refine lv_iload_n hx hb d_M_know_114 rfl (lv_at hl 1 rfl) ?_
    obtain ⟨v_2, e_2, h⟩ := bd_some h
    refine go_Si (r := v_2) (As := [.int x1]) (rest := [.int (2 : Int32), .int mn, .int (32 : Int32), .ref (a 27)]) (wc := (wN a k )) (wr := [((a 20), .inr (3, [.int mh, .int mn, .int mc, .ref (a 21), .ref (a 22), .ref (a 23), .ref (a 24), .ref (a 25), .int mk, .ref (a 26), .ref (a 27), .ref (a 28), .ref (a 29)])), ((a 21), .inl (k 21, 10, .inl ms)), ((a 22), .inl (k 22, 40, .inl ml)), ((a 23), .inl (k 23, 40, .inl mm)), ((a 24), .inl (k 24, 40, .inl mt)), ((a 25), .inl (k 25, 10, .inl mo)), ((a 26), .inl (k 26, 260, .inr (.inl mr))), ((a 27), .inl (k 27, 672, .inl my)), ((a 28), .inl (k 28, 40, .inr (.inl mb))), ((a 29), .inl (k 29, 4, .inl mf))]) (w1 := (wN a k )) (w2 := (wM a k mh mn mc ms ml mm mt mo mk mr my mb mf)) (tc := []) hx hb hml hown ht (c_M_bits l D a k H.size x1 v_2 e_2) g_M_71 ⟨rfl, rfl⟩ (n := 1) (by decide +kernel) ⟨(Nat.le_of_ble_eq_true rfl), (Nat.le_of_ble_eq_true rfl)⟩ hP hD hK hS hA ⟨Nat.zero_le _, Nat.zero_le _⟩ [] [0, 1, 2, 3, 4, 5, 6, 7, 8, 9] [] [0, 1, 2, 3, 4, 5, 6, 7, 8, 9] rfl rfl rfl rfl (by decide) (by decide) (by decide) rfl (by decide) rfl rfl hl.1 (Nat.le_of_ble_eq_true rfl) d_M_know_115 (fun H locs hP hD hS => ?_)
    refine lv_imul hx hb d_M_know_118 ?_
    refine lv_isub hx hb d_M_know_119 ?_
    refine lv_bipush (v := 10) hx hb d_M_know_120 (by decide) ?_
    refine lv_iadd hx hb d_M_know_122 ?_
    refine lv_imul hx hb d_M_know_123 ?_
    refine lv_aload_n hx hb d_M_know_124 rfl (lv_at hl 0 rfl) ?_
    refine lv_iload_n hx hb d_M_know_125 rfl (lv_at hl 1 rfl) ?_
    obtain ⟨v_3, e_3, h⟩ := bd_some h
    refine go_Vi (r := v_3.1) (As := [.int x1]) (rest := [.int ((32 : Int32) * ((mn - ((2 : Int32) * v_2)) + (10 : Int32))), .ref (a 27)]) (wc := (wM a k mh mn mc ms ml mm mt mo mk mr my mb mf)) (wr := []) (w1 := (wM a k mh mn mc ms ml mm v_3.2 mo mk mr my mb mf)) (w2 := (wM a k mh mn mc ms ml mm v_3.2 mo mk mr my mb mf)) (tc := [(k 21, .int), (k 22, .int), (k 23, .int), (k 24, .boolean), (k 25, .boolean), (k 26, .long), (k 27, .int), (k 28, .long), (k 29, .int)]) hx hb hml hown ht (c_M_ways l D a k H.size x1 mh mn mc ms ml mm mt mo mk mr my mb mf v_3 e_3) g_M_68 ⟨rfl, rfl⟩ (n := 1) (by decide +kernel) ⟨(Nat.le_of_ble_eq_true rfl), (Nat.le_of_ble_eq_true rfl)⟩ hP hD hK hS hA ⟨Nat.zero_le _, Nat.zero_le _⟩ [0, 1, 2, 3, 4, 5, 6, 7, 8, 9] [] [0, 1, 2, 3, 4, 5, 6, 7, 8] [0, 1, 2, 3, 4, 5, 6, 7, 8, 9] rfl rfl rfl rfl (by decide) (by decide) (by decide) rfl (by decide) 0 rfl rfl rfl rfl rfl hl.1 (Nat.le_of_ble_eq_true rfl) d_M_know_126 (fun H locs hP hD hS => ?_)
    refine lv_iadd hx hb d_M_know_129 ?_
    refine lv_dup2_11 hx hb d_M_know_130 rfl rfl ?_
    obtain ⟨g_4, h⟩ := gd_some h
    refine va_iald hx hb hK hP 7 6 rfl rfl (inb_in g_4) d_M_know_131 ?_
    refine lv_iconst (v := 1) hx hb d_M_know_132 (by decide) ?_
    refine lv_iadd hx hb d_M_know_133 ?_
    obtain ⟨g_5, h⟩ := gd_some h
    refine va_iast hx hb hK hP hD hS 7 6 rfl rfl (inb_in g_5) d_M_know_134 (fun H locs hP hD hS => ?_)
    have hP : va_P D classes (wM a k mh mn mc ms ml mm v_3.2 mo mk mr (upd my (((32 : Int32) * ((mn - ((2 : Int32) * v_2)) + (10 : Int32))) + v_3.1).toNatClampNeg ((my (((32 : Int32) * ((mn - ((2 : Int32) * v_2)) + (10 : Int32))) + v_3.1).toNatClampNeg) + (1 : Int32))) mb mf) H := hP
    have hD : va_D A (wM a k mh mn mc ms ml mm v_3.2 mo mk mr (upd my (((32 : Int32) * ((mn - ((2 : Int32) * v_2)) + (10 : Int32))) + v_3.1).toNatClampNeg ((my (((32 : Int32) * ((mn - ((2 : Int32) * v_2)) + (10 : Int32))) + v_3.1).toNatClampNeg) + (1 : Int32))) mb mf) := hD
    refine lv_iinc (v := x1 + 1) (lv' := [(1, .int (x1 + 1)), (0, .ref (a 20))]) hx hb d_M_know_135 hl (k := 1) rfl rfl (by decide) rfl (fun ls hl => ?_)
    refine lv_goto (tgt := 93) hx hb d_M_know_138 (by decide) ?_
    exact hrec93 _ _ _ _ _ _ _ _ _ _ _ h _ _ _ hP hD hS (lv_sub hl [1, 0] rfl)
theorem k_M_know_93_L {p : Program} {l : Launch} {e : Env} {s : State} {m : MethodId} {args : Array Value} {below : List Frame} {meth : Method} {c : Code} {D : va_G} {A : Nat → Prop} {a : Nat → Nat} {k : Nat → ClassId} {mh : Int32} {ms : Nat → Int32} {mo : Nat → Int32} {mf : Nat → Int32} (C : cx D [(k 21, .int), (k 22, .int), (k 23, .int), (k 24, .boolean), (k 25, .boolean), (k 26, .long), (k 27, .int), (k 28, .long), (k 29, .int)] R_M b_M_know 2 none A p s m args meth c) : ∀ n : Nat, H_M_know_93 p l e s m args below meth c D A a k mh ms mo mf (L_M_know_93 n)
  | 0 => fun _ _ _ _ _ _ _ _ _ _ _ h => nomatch h
  | n + 1 => k_M_know_93 C (k_M_know_93_L C n)
set_option maxHeartbeats 4000000 in
set_option maxRecDepth 100000 in
theorem k_M_know_71 {p : Program} {l : Launch} {e : Env} {s : State} {m : MethodId} {args : Array Value} {below : List Frame} {meth : Method} {c : Code} {D : va_G} {A : Nat → Prop} {a : Nat → Nat} {k : Nat → ClassId} {mh : Int32} {ms : Nat → Int32} {mo : Nat → Int32} {mf : Nat → Int32} {rec71 : Int32 → Int32 → Int32 → (Nat → Int32) → (Nat → Int32) → (Nat → Int32) → Int32 → (Nat → Int64) → (Nat → Int32) → (Nat → Int64) → Option ((Nat → Int32) × (Nat → Int32) × Int32 × (Nat → Int64) × (Nat → Int32) × (Nat → Int64))} (C : cx D [(k 21, .int), (k 22, .int), (k 23, .int), (k 24, .boolean), (k 25, .boolean), (k 26, .long), (k 27, .int), (k 28, .long), (k 29, .int)] R_M b_M_know 2 none A p s m args meth c) (hrec71 : H_M_know_71 p l e s m args below meth c D A a k mh ms mo mf rec71) : H_M_know_71 p l e s m args below meth c D A a k mh ms mo mf (J_M_know_71 rec71) := by
  obtain ⟨hx, hb, hr, hml, hown, ht, hlk, hA, hK⟩ := id C
  intro x1 mn mc ml mm mt mk mr my mb r h H locs ls hP hD hS hl
  unfold J_M_know_71 at h
  refine lv_iload_n hx hb d_M_know_71 rfl (lv_at hl 1 rfl) ?_
  refine lv_sipush (v := 672) hx hb d_M_know_72 (by decide) ?_
  refine lv_icmp_ge (tgt := 91) hx hb d_M_know_75 (by decide) (fun c_1 => ?_) (fun c_1 => ?_)
  · have h := ite_T c_1 h
    refine lv_iconst (v := 0) hx hb d_M_know_91 (by decide) ?_
    refine lv_istore_n (lv' := [(1, .int (0 : Int32)), (0, .ref (a 20))]) hx hb d_M_know_92 rfl hl (by decide) rfl (fun ls hl => ?_)
    exact (k_M_know_93_L C fu) _ _ _ _ _ _ _ _ _ _ _ h _ _ _ hP hD hS (lv_sub hl [1, 0] rfl)
  · have h := ite_F c_1 h
    refine lv_aload_n hx hb d_M_know_78 rfl (lv_at hl 0 rfl) ?_
    refine va_get (D := D) (ci := 3) (v := .ref (a 27)) (C := R_M) (T := F_M) (N := 13) hx hb ht iC_M hown hK hP 0 rfl rfl 10 (by decide) (ht _ ix_191) (fun _ h9 => h9) rfl d_M_know_79 ?_
    refine lv_iload_n hx hb d_M_know_82 rfl (lv_at hl 1 rfl) ?_
    refine lv_iconst (v := 0) hx hb d_M_know_83 (by decide) ?_
    obtain ⟨g_2, h⟩ := gd_some h
    refine va_iast hx hb hK hP hD hS 7 6 rfl rfl (inb_in g_2) d_M_know_84 (fun H locs hP hD hS => ?_)
    have hP : va_P D classes (wM a k mh mn mc ms ml mm mt mo mk mr (upd my x1.toNatClampNeg (0 : Int32)) mb mf) H := hP
    have hD : va_D A (wM a k mh mn mc ms ml mm mt mo mk mr (upd my x1.toNatClampNeg (0 : Int32)) mb mf) := hD
    refine lv_iinc (v := x1 + 1) (lv' := [(1, .int (x1 + 1)), (0, .ref (a 20))]) hx hb d_M_know_85 hl (k := 1) rfl rfl (by decide) rfl (fun ls hl => ?_)
    refine lv_goto (tgt := 71) hx hb d_M_know_88 (by decide) ?_
    exact hrec71 _ _ _ _ _ _ _ _ _ _ _ h _ _ _ hP hD hS (lv_sub hl [1, 0] rfl)
theorem k_M_know_71_L {p : Program} {l : Launch} {e : Env} {s : State} {m : MethodId} {args : Array Value} {below : List Frame} {meth : Method} {c : Code} {D : va_G} {A : Nat → Prop} {a : Nat → Nat} {k : Nat → ClassId} {mh : Int32} {ms : Nat → Int32} {mo : Nat → Int32} {mf : Nat → Int32} (C : cx D [(k 21, .int), (k 22, .int), (k 23, .int), (k 24, .boolean), (k 25, .boolean), (k 26, .long), (k 27, .int), (k 28, .long), (k 29, .int)] R_M b_M_know 2 none A p s m args meth c) : ∀ n : Nat, H_M_know_71 p l e s m args below meth c D A a k mh ms mo mf (L_M_know_71 n)
  | 0 => fun _ _ _ _ _ _ _ _ _ _ _ h => nomatch h
  | n + 1 => k_M_know_71 C (k_M_know_71_L C n)
set_option maxHeartbeats 4000000 in
set_option maxRecDepth 100000 in
theorem k_M_know_15 {p : Program} {l : Launch} {e : Env} {s : State} {m : MethodId} {args : Array Value} {below : List Frame} {meth : Method} {c : Code} {D : va_G} {A : Nat → Prop} {a : Nat → Nat} {k : Nat → ClassId} {mh : Int32} {ms : Nat → Int32} {mo : Nat → Int32} {mf : Nat → Int32} {rec15 : Int32 → Int32 → Int32 → (Nat → Int32) → (Nat → Int32) → (Nat → Int32) → Int32 → (Nat → Int64) → (Nat → Int32) → (Nat → Int64) → Option ((Nat → Int32) × (Nat → Int32) × Int32 × (Nat → Int64) × (Nat → Int32) × (Nat → Int64))} (C : cx D [(k 21, .int), (k 22, .int), (k 23, .int), (k 24, .boolean), (k 25, .boolean), (k 26, .long), (k 27, .int), (k 28, .long), (k 29, .int)] R_M b_M_know 2 none A p s m args meth c) (hrec15 : H_M_know_15 p l e s m args below meth c D A a k mh ms mo mf rec15) : H_M_know_15 p l e s m args below meth c D A a k mh ms mo mf (J_M_know_15 rec15) := by
  obtain ⟨hx, hb, hr, hml, hown, ht, hlk, hA, hK⟩ := id C
  intro x1 mn mc ml mm mt mk mr my mb r h H locs ls hP hD hS hl
  unfold J_M_know_15 at h
  refine lv_iload_n hx hb d_M_know_15 rfl (lv_at hl 1 rfl) ?_
  refine lv_sipush (v := 260) hx hb d_M_know_16 (by decide) ?_
  refine lv_icmp_ge (tgt := 35) hx hb d_M_know_19 (by decide) (fun c_1 => ?_) (fun c_1 => ?_)
  · have h := ite_T c_1 h
    refine lv_aload_n hx hb d_M_know_35 rfl (lv_at hl 0 rfl) ?_
    obtain ⟨v_2, e_2, h⟩ := bd_some h
    refine go_Vi (r := v_2) (As := []) (rest := []) (wc := (wM a k mh mn mc ms ml mm mt mo mk mr my mb mf)) (wr := []) (w1 := (wM a k mh mn mc ms ml mm mt mo mk mr my mb mf)) (w2 := (wM a k mh mn mc ms ml mm mt mo mk mr my mb mf)) (tc := [(k 21, .int), (k 22, .int), (k 23, .int), (k 24, .boolean), (k 25, .boolean), (k 26, .long), (k 27, .int), (k 28, .long), (k 29, .int)]) hx hb hml hown ht (c_M_fault l D a k H.size mh mn mc ms ml mm mt mo mk mr my mb mf v_2 e_2) g_M_61 ⟨rfl, rfl⟩ (n := 0) (by decide +kernel) ⟨(Nat.le_of_ble_eq_true rfl), (Nat.le_of_ble_eq_true rfl)⟩ hP hD hK hS hA ⟨Nat.zero_le _, Nat.zero_le _⟩ [0, 1, 2, 3, 4, 5, 6, 7, 8, 9] [] [0, 1, 2, 3, 4, 5, 6, 7, 8] [0, 1, 2, 3, 4, 5, 6, 7, 8, 9] rfl rfl rfl rfl (by decide) (by decide) (by decide) rfl (by decide) 0 rfl rfl rfl rfl rfl hl.1 (Nat.le_of_ble_eq_true rfl) d_M_know_36 (fun H locs hP hD hS => ?_)
    refine lv_if_le (tgt := 43) hx hb d_M_know_39 (by decide) (fun c_3 => ?_) (fun c_3 => ?_)
    · have h := ite_T c_3 h
      refine lv_aload_n hx hb d_M_know_43 rfl (lv_at hl 0 rfl) ?_
      refine va_get (D := D) (ci := 3) (v := .int mn) (C := R_M) (T := F_M) (N := 13) hx hb ht iC_M hown hK hP 0 rfl rfl 1 (by decide) (ht _ ix_163) (fun _ h9 => h9) rfl d_M_know_44 ?_
      refine lv_aload_n hx hb d_M_know_47 rfl (lv_at hl 0 rfl) ?_
      refine va_get (D := D) (ci := 3) (v := .int mc) (C := R_M) (T := F_M) (N := 13) hx hb ht iC_M hown hK hP 0 rfl rfl 2 (by decide) (ht _ ix_171) (fun _ h9 => h9) rfl d_M_know_48 ?_
      refine lv_iadd hx hb d_M_know_51 ?_
      refine lv_if_ne (tgt := 65) hx hb d_M_know_52 (by decide) (fun c_4 => ?_) (fun c_4 => ?_)
      · have h := ite_F c_4 h
        refine lv_aload_n hx hb d_M_know_65 rfl (lv_at hl 0 rfl) ?_
        obtain ⟨v_5, e_5, h⟩ := bd_some h
        refine go_Vv (As := []) (rest := []) (wc := (wM a k mh mn mc ms ml mm mt mo mk mr my mb mf)) (wr := []) (w1 := (wM a k mh mn mc ms ml v_5 mt mo mk mr my mb mf)) (w2 := (wM a k mh mn mc ms ml v_5 mt mo mk mr my mb mf)) (tc := [(k 21, .int), (k 22, .int), (k 23, .int), (k 24, .boolean), (k 25, .boolean), (k 26, .long), (k 27, .int), (k 28, .long), (k 29, .int)]) hx hb hml hown ht (c_M_findMates l D a k H.size mh mn mc ms ml mm mt mo mk mr my mb mf v_5 e_5) g_M_65 ⟨rfl, rfl⟩ (n := 0) (by decide +kernel) ⟨(Nat.le_of_ble_eq_true rfl), (Nat.le_of_ble_eq_true rfl)⟩ hP hD hK hS hA ⟨Nat.zero_le _, Nat.zero_le _⟩ [0, 1, 2, 3, 4, 5, 6, 7, 8, 9] [] [0, 1, 2, 3, 4, 5, 6, 7, 8] [0, 1, 2, 3, 4, 5, 6, 7, 8, 9] rfl rfl rfl rfl (by decide) (by decide) (by decide) rfl (by decide) 0 rfl rfl rfl rfl rfl hl.1 (Nat.le_of_ble_eq_true rfl) d_M_know_66 (fun H locs hP hD hS => ?_)
        refine lv_iconst (v := 0) hx hb d_M_know_69 (by decide) ?_
        refine lv_istore_n (lv' := [(1, .int (0 : Int32)), (0, .ref (a 20))]) hx hb d_M_know_70 rfl hl (by decide) rfl (fun ls hl => ?_)
        exact (k_M_know_71_L C fu) _ _ _ _ _ _ _ _ _ _ _ h _ _ _ hP hD hS (lv_sub hl [1, 0] rfl)
      · have h := ite_T c_4 h
        refine lv_aload_n hx hb d_M_know_55 rfl (lv_at hl 0 rfl) ?_
        refine va_get (D := D) (ci := 3) (v := .ref (a 26)) (C := R_M) (T := F_M) (N := 13) hx hb ht iC_M hown hK hP 0 rfl rfl 9 (by decide) (ht _ ix_189) (fun _ h9 => h9) rfl d_M_know_56 ?_
        refine lv_sipush (v := 128) hx hb d_M_know_59 (by decide) ?_
        refine lv_lconst (v := 1) hx hb d_M_know_62 (by decide) ?_
        obtain ⟨g_6, h⟩ := gd_some h
        refine va_last hx hb hK hP hD hS 6 5 rfl rfl (inb_in g_6) d_M_know_63 (fun H locs hP hD hS => ?_)
        have hP : va_P D classes (wM a k mh mn mc ms ml mm mt mo mk (vp_updL mr (128 : Int32).toNatClampNeg (1 : Int64)) my mb mf) H := hP
        have hD : va_D A (wM a k mh mn mc ms ml mm mt mo mk (vp_updL mr (128 : Int32).toNatClampNeg (1 : Int64)) my mb mf) := hD
        cases h
        exact W.vret hx hb hr (fun t ht hW => ⟨⟨(), rfl, trivial, by rw [ht]; exact hP, va_K.moved hW.alike hK, hD⟩, hS.F ht⟩) hS.2.2 d_M_know_64 hlk
    · have h := ite_F c_3 h
      cases h
      exact W.vret hx hb hr (fun t ht hW => ⟨⟨(), rfl, trivial, by rw [ht]; exact hP, va_K.moved hW.alike hK, hD⟩, hS.F ht⟩) hS.2.2 d_M_know_42 hlk
  · have h := ite_F c_1 h
    refine lv_aload_n hx hb d_M_know_22 rfl (lv_at hl 0 rfl) ?_
    refine va_get (D := D) (ci := 3) (v := .ref (a 26)) (C := R_M) (T := F_M) (N := 13) hx hb ht iC_M hown hK hP 0 rfl rfl 9 (by decide) (ht _ ix_189) (fun _ h9 => h9) rfl d_M_know_23 ?_
    refine lv_iload_n hx hb d_M_know_26 rfl (lv_at hl 1 rfl) ?_
    refine lv_lconst (v := 0) hx hb d_M_know_27 (by decide) ?_
    obtain ⟨g_7, h⟩ := gd_some h
    refine va_last hx hb hK hP hD hS 6 5 rfl rfl (inb_in g_7) d_M_know_28 (fun H locs hP hD hS => ?_)
    have hP : va_P D classes (wM a k mh mn mc ms ml mm mt mo mk (vp_updL mr x1.toNatClampNeg (0 : Int64)) my mb mf) H := hP
    have hD : va_D A (wM a k mh mn mc ms ml mm mt mo mk (vp_updL mr x1.toNatClampNeg (0 : Int64)) my mb mf) := hD
    refine lv_iinc (v := x1 + 1) (lv' := [(1, .int (x1 + 1)), (0, .ref (a 20))]) hx hb d_M_know_29 hl (k := 1) rfl rfl (by decide) rfl (fun ls hl => ?_)
    refine lv_goto (tgt := 15) hx hb d_M_know_32 (by decide) ?_
    exact hrec15 _ _ _ _ _ _ _ _ _ _ _ h _ _ _ hP hD hS (lv_sub hl [1, 0] rfl)
theorem k_M_know_15_L {p : Program} {l : Launch} {e : Env} {s : State} {m : MethodId} {args : Array Value} {below : List Frame} {meth : Method} {c : Code} {D : va_G} {A : Nat → Prop} {a : Nat → Nat} {k : Nat → ClassId} {mh : Int32} {ms : Nat → Int32} {mo : Nat → Int32} {mf : Nat → Int32} (C : cx D [(k 21, .int), (k 22, .int), (k 23, .int), (k 24, .boolean), (k 25, .boolean), (k 26, .long), (k 27, .int), (k 28, .long), (k 29, .int)] R_M b_M_know 2 none A p s m args meth c) : ∀ n : Nat, H_M_know_15 p l e s m args below meth c D A a k mh ms mo mf (L_M_know_15 n)
  | 0 => fun _ _ _ _ _ _ _ _ _ _ _ h => nomatch h
  | n + 1 => k_M_know_15 C (k_M_know_15_L C n)
set_option maxHeartbeats 4000000 in
set_option maxRecDepth 100000 in
theorem k_M_know_0 {p : Program} {l : Launch} {e : Env} {s : State} {m : MethodId} {args : Array Value} {below : List Frame} {meth : Method} {c : Code} {D : va_G} {A : Nat → Prop} {a : Nat → Nat} {k : Nat → ClassId} {mh : Int32} {ms : Nat → Int32} {mo : Nat → Int32} {mf : Nat → Int32} (C : cx D [(k 21, .int), (k 22, .int), (k 23, .int), (k 24, .boolean), (k 25, .boolean), (k 26, .long), (k 27, .int), (k 28, .long), (k 29, .int)] R_M b_M_know 2 none A p s m args meth c) : H_M_know_0 p l e s m args below meth c D A a k mh ms mo mf (J_M_know_0) := by
  obtain ⟨hx, hb, hr, hml, hown, ht, hlk, hA, hK⟩ := id C
  intro mn mc ml mm mt mk mr my mb r h H locs ls hP hD hS hl
  unfold J_M_know_0 at h
  refine lv_aload_n hx hb d_M_know_0 rfl (lv_at hl 0 rfl) ?_
  refine va_get (D := D) (ci := 3) (v := .int mk) (C := R_M) (T := F_M) (N := 13) hx hb ht iC_M hown hK hP 0 rfl rfl 8 (by decide) (ht _ ix_190) (fun _ h9 => h9) rfl d_M_know_1 ?_
  refine lv_if_eq (tgt := 8) hx hb d_M_know_4 (by decide) (fun c_1 => ?_) (fun c_1 => ?_)
  · have h := ite_T c_1 h
    refine lv_aload_n hx hb d_M_know_8 rfl (lv_at hl 0 rfl) ?_
    refine lv_iconst (v := 1) hx hb d_M_know_9 (by decide) ?_
    refine va_put (D := D) (ci := 3) (v := .int (1 : Int32)) (ty := .boolean) (C := R_M) (T := F_M) (N := 13) hx hb ht iC_M t_M t_M_ok n_M hown hK hP hD hS 0 rfl rfl 8 (by decide) (ht _ ix_190) (fun _ h9 => h9) rfl (by decide +kernel) rfl rfl (Nat.le_of_ble_eq_true rfl) d_M_know_10 (fun H locs hP hD hS => ?_)
    have hP : va_P D classes (wM a k mh mn mc ms ml mm mt mo (1 : Int32) mr my mb mf) H := hP
    have hD : va_D A (wM a k mh mn mc ms ml mm mt mo (1 : Int32) mr my mb mf) := hD
    refine lv_iconst (v := 0) hx hb d_M_know_13 (by decide) ?_
    refine lv_istore_n (lv' := [(1, .int (0 : Int32)), (0, .ref (a 20))]) hx hb d_M_know_14 rfl hl (by decide) rfl (fun ls hl => ?_)
    exact (k_M_know_15_L C fu) _ _ _ _ _ _ _ _ _ _ _ h _ _ _ hP hD hS (lv_sub hl [1, 0] rfl)
  · have h := ite_F c_1 h
    cases h
    exact W.vret hx hb hr (fun t ht hW => ⟨⟨(), rfl, trivial, by rw [ht]; exact hP, va_K.moved hW.alike hK, hD⟩, hS.F ht⟩) hS.2.2 d_M_know_7 hlk
set_option maxRecDepth 20000 in
theorem c_M_know (l : Launch) (D : va_G) (a : Nat → Nat) (k : Nat → ClassId) (sz : Nat) (mh : Int32) (mn : Int32) (mc : Int32) (ms : Nat → Int32) (ml : Nat → Int32) (mm : Nat → Int32) (mt : Nat → Int32) (mo : Nat → Int32) (mk : Int32) (mr : Nat → Int64) (my : Nat → Int32) (mb : Nat → Int64) (mf : Nat → Int32) (r : (Nat → Int32) × (Nat → Int32) × Int32 × (Nat → Int64) × (Nat → Int32) × (Nat → Int64)) (h : F_M_know mn mc ml mm mt mk mr my mb = some r) : Met l y_M_know (Cond.code y_M_know b_M_know 2 none :: lw_g) (rm_M_know) (va_Pc [.ref (a 20)] (pcW D [(k 21, .int), (k 22, .int), (k 23, .int), (k 24, .boolean), (k 25, .boolean), (k 26, .long), (k 27, .int), (k 28, .long), (k 29, .int)] (wM a k mh mn mc ms ml mm mt mo mk mr my mb mf) sz)) (qc_M_know D (va_A (wM a k mh mn mc ms ml mm mt mo mk mr my mb mf) sz) a k mh mn mc ms ml mo mf r) 0 0 (va_A (wM a k mh mn mc ms ml mm mt mo mk mr my mb mf) sz) := by
  refine Met.ofW (cc := b_M_know) (maxL := 2) (ret := none) (by decide) rfl ?_
  intro p e s m args below meth c s₁ B hml hv
  obtain ⟨rfl, hsz, hP, hK, hD0⟩ := hv
  have hts := atoms_spec (ws := Cond.code y_M_know b_M_know 2 none :: lw_g) B.pre
  subst hsz
  have hD := hD0.self (sz := s.heap.size)
  have hl := lv_entry ([.ref (a 20)]) (n := 2) (Nat.le_of_ble_eq_true rfl)
  rw [lg_entry_eq]
  generalize (lg_sl ([.ref (a 20)]) ++ List.replicate (2 - (lg_sl ([.ref (a 20)])).length) Slot.unset).toArray = ls at hl ⊢
  exact k_M_know_0 ⟨B.exec, B.bytes, B.returns, hml, findClass_of_methodNamed B.named, fun w hw => hts w (List.mem_cons_of_mem _ hw), B.notSynchronized, fun q h => Or.inr h, hK⟩ _ _ _ _ _ _ _ _ _ _ h _ _ _ hP hD va_S.rf hl

def rm_M_signs : Room := { frames := 0, cells := 0, slots := 0, locals := 0 }
def qc_M_signs (D : va_G) (A : Nat → Prop) (a : Nat → Nat) (k : Nat → ClassId) (mh : Int32) (mn : Int32) (mc : Int32) (ms : Nat → Int32) (ml : Nat → Int32) (mm : Nat → Int32) (mt : Nat → Int32) (mo : Nat → Int32) (mk : Int32) (mr : Nat → Int64) (my : Nat → Int32) (mb : Nat → Int64) (mf : Nat → Int32) (r : Int32) : Array Value → State → Outcome → State → Prop := va_Qi (fun (r1 : Int32) (_ : Unit) => r1 = r) (poW D [(k 21, .int), (k 22, .int), (k 23, .int), (k 24, .boolean), (k 25, .boolean), (k 26, .long), (k 27, .int), (k 28, .long), (k 29, .int)] (wM a k mh mn mc ms ml mm mt mo mk mr my mb mf) A) A
def J_M_signs_4 (rec4 : Int32 → Int32 → Int32 → (Nat → Int32) → Option (Int32)) (x1 : Int32) (x2 : Int32) (mn : Int32) (ms : Nat → Int32) : Option (Int32) :=
  (if mn ≤ x2 then some (x1) else (if inb x2 10 then rec4 (x1 + (ms x2.toNatClampNeg)) (x2 + 1) mn ms else none))
def L_M_signs_4 : Nat → Int32 → Int32 → Int32 → (Nat → Int32) → Option (Int32)
  | 0 => fun _ _ _ _ => none
  | n + 1 => J_M_signs_4 (L_M_signs_4 n)
def J_M_signs_0 (mn : Int32) (ms : Nat → Int32) : Option (Int32) :=
  L_M_signs_4 fu (0 : Int32) (0 : Int32) mn ms
def F_M_signs (mn : Int32) (ms : Nat → Int32) : Option (Int32) := J_M_signs_0 mn ms
def H_M_signs_4 (p : Program) (l : Launch) (e : Env) (s : State) (m : MethodId) (args : Array Value) (below : List Frame) (meth : Method) (c : Code) (D : va_G) (A : Nat → Prop) (a : Nat → Nat) (k : Nat → ClassId) (mh : Int32) (mc : Int32) (ml : Nat → Int32) (mm : Nat → Int32) (mt : Nat → Int32) (mo : Nat → Int32) (mk : Int32) (mr : Nat → Int64) (my : Nat → Int32) (mb : Nat → Int64) (mf : Nat → Int32) (f : Int32 → Int32 → Int32 → (Nat → Int32) → Option (Int32)) : Prop := ∀ (x1 : Int32) (x2 : Int32) (mn : Int32) (ms : Nat → Int32) (r : Int32), f x1 x2 mn ms = some r → ∀ (H : Heap) (locs : List Loc) (ls : Array Slot), va_P D classes (wM a k mh mn mc ms ml mm mt mo mk mr my mb mf) H → va_D A (wM a k mh mn mc ms ml mm mt mo mk mr my mb mf) → va_S A s.heap H locs → lv_has ls 3 [(0, .ref (a 20)), (1, .int x1), (2, .int x2)] → W p l e (rm_M_signs) s m args below meth c H locs 0 0 (MQ below (qc_M_signs D A a k mh mn mc ms ml mm mt mo mk mr my mb mf r) args s 0 0 A) (F0 m 4 ls [])
def H_M_signs_0 (p : Program) (l : Launch) (e : Env) (s : State) (m : MethodId) (args : Array Value) (below : List Frame) (meth : Method) (c : Code) (D : va_G) (A : Nat → Prop) (a : Nat → Nat) (k : Nat → ClassId) (mh : Int32) (mc : Int32) (ml : Nat → Int32) (mm : Nat → Int32) (mt : Nat → Int32) (mo : Nat → Int32) (mk : Int32) (mr : Nat → Int64) (my : Nat → Int32) (mb : Nat → Int64) (mf : Nat → Int32) (f : Int32 → (Nat → Int32) → Option (Int32)) : Prop := ∀ (mn : Int32) (ms : Nat → Int32) (r : Int32), f mn ms = some r → ∀ (H : Heap) (locs : List Loc) (ls : Array Slot), va_P D classes (wM a k mh mn mc ms ml mm mt mo mk mr my mb mf) H → va_D A (wM a k mh mn mc ms ml mm mt mo mk mr my mb mf) → va_S A s.heap H locs → lv_has ls 3 [(0, .ref (a 20))] → W p l e (rm_M_signs) s m args below meth c H locs 0 0 (MQ below (qc_M_signs D A a k mh mn mc ms ml mm mt mo mk mr my mb mf r) args s 0 0 A) (F0 m 0 ls [])
set_option maxHeartbeats 4000000 in
set_option maxRecDepth 100000 in
theorem k_M_signs_4 {p : Program} {l : Launch} {e : Env} {s : State} {m : MethodId} {args : Array Value} {below : List Frame} {meth : Method} {c : Code} {D : va_G} {A : Nat → Prop} {a : Nat → Nat} {k : Nat → ClassId} {mh : Int32} {mc : Int32} {ml : Nat → Int32} {mm : Nat → Int32} {mt : Nat → Int32} {mo : Nat → Int32} {mk : Int32} {mr : Nat → Int64} {my : Nat → Int32} {mb : Nat → Int64} {mf : Nat → Int32} {rec4 : Int32 → Int32 → Int32 → (Nat → Int32) → Option (Int32)} (C : cx D [(k 21, .int), (k 22, .int), (k 23, .int), (k 24, .boolean), (k 25, .boolean), (k 26, .long), (k 27, .int), (k 28, .long), (k 29, .int)] R_M b_M_signs 3 (some .int) A p s m args meth c) (hrec4 : H_M_signs_4 p l e s m args below meth c D A a k mh mc ml mm mt mo mk mr my mb mf rec4) : H_M_signs_4 p l e s m args below meth c D A a k mh mc ml mm mt mo mk mr my mb mf (J_M_signs_4 rec4) := by
  obtain ⟨hx, hb, hr, hml, hown, ht, hlk, hA, hK⟩ := id C
  intro x1 x2 mn ms r h H locs ls hP hD hS hl
  unfold J_M_signs_4 at h
  refine lv_iload_n hx hb d_M_signs_4 rfl (lv_at hl 2 rfl) ?_
  refine lv_aload_n hx hb d_M_signs_5 rfl (lv_at hl 0 rfl) ?_
  refine va_get (D := D) (ci := 3) (v := .int mn) (C := R_M) (T := F_M) (N := 13) hx hb ht iC_M hown hK hP 0 rfl rfl 1 (by decide) (ht _ ix_163) (fun _ h9 => h9) rfl d_M_signs_6 ?_
  refine lv_icmp_ge (tgt := 27) hx hb d_M_signs_9 (by decide) (fun c_1 => ?_) (fun c_1 => ?_)
  · have h := ite_T c_1 h
    refine lv_iload_n hx hb d_M_signs_27 rfl (lv_at hl 1 rfl) ?_
    cases h
    exact W.iret hx hb hr (fun t ht hW => ⟨⟨_, (), rfl, rfl, by rw [ht]; exact hP, va_K.moved hW.alike hK, hD⟩, hS.F ht⟩) hS.2.2 d_M_signs_28 hlk
  · have h := ite_F c_1 h
    refine lv_iload_n hx hb d_M_signs_12 rfl (lv_at hl 1 rfl) ?_
    refine lv_aload_n hx hb d_M_signs_13 rfl (lv_at hl 0 rfl) ?_
    refine va_get (D := D) (ci := 3) (v := .ref (a 21)) (C := R_M) (T := F_M) (N := 13) hx hb ht iC_M hown hK hP 0 rfl rfl 3 (by decide) (ht _ ix_199) (fun _ h9 => h9) rfl d_M_signs_14 ?_
    refine lv_iload_n hx hb d_M_signs_17 rfl (lv_at hl 2 rfl) ?_
    obtain ⟨g_2, h⟩ := gd_some h
    refine va_iald hx hb hK hP 1 0 rfl rfl (inb_in g_2) d_M_signs_18 ?_
    refine lv_iadd hx hb d_M_signs_19 ?_
    refine lv_istore_n (lv' := [(1, .int (x1 + (ms x2.toNatClampNeg))), (0, .ref (a 20)), (2, .int x2)]) hx hb d_M_signs_20 rfl hl (by decide) rfl (fun ls hl => ?_)
    refine lv_iinc (v := x2 + 1) (lv' := [(2, .int (x2 + 1)), (1, .int (x1 + (ms x2.toNatClampNeg))), (0, .ref (a 20))]) hx hb d_M_signs_21 hl (k := 2) rfl rfl (by decide) rfl (fun ls hl => ?_)
    refine lv_goto (tgt := 4) hx hb d_M_signs_24 (by decide) ?_
    exact hrec4 _ _ _ _ _ h _ _ _ hP hD hS (lv_sub hl [2, 1, 0] rfl)
theorem k_M_signs_4_L {p : Program} {l : Launch} {e : Env} {s : State} {m : MethodId} {args : Array Value} {below : List Frame} {meth : Method} {c : Code} {D : va_G} {A : Nat → Prop} {a : Nat → Nat} {k : Nat → ClassId} {mh : Int32} {mc : Int32} {ml : Nat → Int32} {mm : Nat → Int32} {mt : Nat → Int32} {mo : Nat → Int32} {mk : Int32} {mr : Nat → Int64} {my : Nat → Int32} {mb : Nat → Int64} {mf : Nat → Int32} (C : cx D [(k 21, .int), (k 22, .int), (k 23, .int), (k 24, .boolean), (k 25, .boolean), (k 26, .long), (k 27, .int), (k 28, .long), (k 29, .int)] R_M b_M_signs 3 (some .int) A p s m args meth c) : ∀ n : Nat, H_M_signs_4 p l e s m args below meth c D A a k mh mc ml mm mt mo mk mr my mb mf (L_M_signs_4 n)
  | 0 => fun _ _ _ _ _ h => nomatch h
  | n + 1 => k_M_signs_4 C (k_M_signs_4_L C n)
set_option maxHeartbeats 4000000 in
set_option maxRecDepth 100000 in
theorem k_M_signs_0 {p : Program} {l : Launch} {e : Env} {s : State} {m : MethodId} {args : Array Value} {below : List Frame} {meth : Method} {c : Code} {D : va_G} {A : Nat → Prop} {a : Nat → Nat} {k : Nat → ClassId} {mh : Int32} {mc : Int32} {ml : Nat → Int32} {mm : Nat → Int32} {mt : Nat → Int32} {mo : Nat → Int32} {mk : Int32} {mr : Nat → Int64} {my : Nat → Int32} {mb : Nat → Int64} {mf : Nat → Int32} (C : cx D [(k 21, .int), (k 22, .int), (k 23, .int), (k 24, .boolean), (k 25, .boolean), (k 26, .long), (k 27, .int), (k 28, .long), (k 29, .int)] R_M b_M_signs 3 (some .int) A p s m args meth c) : H_M_signs_0 p l e s m args below meth c D A a k mh mc ml mm mt mo mk mr my mb mf (J_M_signs_0) := by
  obtain ⟨hx, hb, hr, hml, hown, ht, hlk, hA, hK⟩ := id C
  intro mn ms r h H locs ls hP hD hS hl
  unfold J_M_signs_0 at h
  refine lv_iconst (v := 0) hx hb d_M_signs_0 (by decide) ?_
  refine lv_istore_n (lv' := [(1, .int (0 : Int32)), (0, .ref (a 20))]) hx hb d_M_signs_1 rfl hl (by decide) rfl (fun ls hl => ?_)
  refine lv_iconst (v := 0) hx hb d_M_signs_2 (by decide) ?_
  refine lv_istore_n (lv' := [(2, .int (0 : Int32)), (1, .int (0 : Int32)), (0, .ref (a 20))]) hx hb d_M_signs_3 rfl hl (by decide) rfl (fun ls hl => ?_)
  exact (k_M_signs_4_L C fu) _ _ _ _ _ h _ _ _ hP hD hS (lv_sub hl [2, 1, 0] rfl)
set_option maxRecDepth 20000 in
theorem c_M_signs (l : Launch) (D : va_G) (a : Nat → Nat) (k : Nat → ClassId) (sz : Nat) (mh : Int32) (mn : Int32) (mc : Int32) (ms : Nat → Int32) (ml : Nat → Int32) (mm : Nat → Int32) (mt : Nat → Int32) (mo : Nat → Int32) (mk : Int32) (mr : Nat → Int64) (my : Nat → Int32) (mb : Nat → Int64) (mf : Nat → Int32) (r : Int32) (h : F_M_signs mn ms = some r) : Met l y_M_signs (Cond.code y_M_signs b_M_signs 3 (some .int) :: lw_g) (rm_M_signs) (va_Pc [.ref (a 20)] (pcW D [(k 21, .int), (k 22, .int), (k 23, .int), (k 24, .boolean), (k 25, .boolean), (k 26, .long), (k 27, .int), (k 28, .long), (k 29, .int)] (wM a k mh mn mc ms ml mm mt mo mk mr my mb mf) sz)) (qc_M_signs D (va_A (wM a k mh mn mc ms ml mm mt mo mk mr my mb mf) sz) a k mh mn mc ms ml mm mt mo mk mr my mb mf r) 0 0 (va_A (wM a k mh mn mc ms ml mm mt mo mk mr my mb mf) sz) := by
  refine Met.ofW (cc := b_M_signs) (maxL := 3) (ret := (some .int)) (by decide) rfl ?_
  intro p e s m args below meth c s₁ B hml hv
  obtain ⟨rfl, hsz, hP, hK, hD0⟩ := hv
  have hts := atoms_spec (ws := Cond.code y_M_signs b_M_signs 3 (some .int) :: lw_g) B.pre
  subst hsz
  have hD := hD0.self (sz := s.heap.size)
  have hl := lv_entry ([.ref (a 20)]) (n := 3) (Nat.le_of_ble_eq_true rfl)
  rw [lg_entry_eq]
  generalize (lg_sl ([.ref (a 20)]) ++ List.replicate (3 - (lg_sl ([.ref (a 20)])).length) Slot.unset).toArray = ls at hl ⊢
  exact k_M_signs_0 ⟨B.exec, B.bytes, B.returns, hml, findClass_of_methodNamed B.named, fun w hw => hts w (List.mem_cons_of_mem _ hw), B.notSynchronized, fun q h => Or.inr h, hK⟩ _ _ _ h _ _ _ hP hD va_S.rf hl

def rm_M_bracket : Room := { frames := 3, cells := 0, slots := 0, locals := 68 }
def qc_M_bracket (D : va_G) (A : Nat → Prop) (a : Nat → Nat) (k : Nat → ClassId) (mh : Int32) (mn : Int32) (mc : Int32) (ms : Nat → Int32) (ml : Nat → Int32) (mo : Nat → Int32) (mf : Nat → Int32) (r : Int64 × (Nat → Int32) × (Nat → Int32) × Int32 × (Nat → Int64) × (Nat → Int32) × (Nat → Int64)) : Array Value → State → Outcome → State → Prop := va_Ql (fun (r1 : Int64) (_ : Unit) => r1 = r.1) (poW D [(k 21, .int), (k 22, .int), (k 23, .int), (k 24, .boolean), (k 25, .boolean), (k 26, .long), (k 27, .int), (k 28, .long), (k 29, .int)] (wM a k mh mn mc ms ml r.2.1 r.2.2.1 mo r.2.2.2.1 r.2.2.2.2.1 r.2.2.2.2.2.1 r.2.2.2.2.2.2 mf) A) A
def J_M_bracket_0 (x1 : Int32) (mn : Int32) (mc : Int32) (ml : Nat → Int32) (mm : Nat → Int32) (mt : Nat → Int32) (mk : Int32) (mr : Nat → Int64) (my : Nat → Int32) (mb : Nat → Int64) : Option (Int64 × (Nat → Int32) × (Nat → Int32) × Int32 × (Nat → Int64) × (Nat → Int32) × (Nat → Int64)) :=
  (Option.bind (F_M_know mn mc ml mm mt mk mr my mb) (fun v_1 => (if x1 < (-128 : Int32) then some ((0 : Int64), v_1.1, v_1.2.1, v_1.2.2.1, v_1.2.2.2.1, v_1.2.2.2.2.1, v_1.2.2.2.2.2) else (if x1 ≤ (128 : Int32) then (if inb ((128 : Int32) + x1) 260 then some ((v_1.2.2.2.1 ((128 : Int32) + x1).toNatClampNeg), v_1.1, v_1.2.1, v_1.2.2.1, v_1.2.2.2.1, v_1.2.2.2.2.1, v_1.2.2.2.2.2) else none) else some ((0 : Int64), v_1.1, v_1.2.1, v_1.2.2.1, v_1.2.2.2.1, v_1.2.2.2.2.1, v_1.2.2.2.2.2)))))
def F_M_bracket (x1 : Int32) (mn : Int32) (mc : Int32) (ml : Nat → Int32) (mm : Nat → Int32) (mt : Nat → Int32) (mk : Int32) (mr : Nat → Int64) (my : Nat → Int32) (mb : Nat → Int64) : Option (Int64 × (Nat → Int32) × (Nat → Int32) × Int32 × (Nat → Int64) × (Nat → Int32) × (Nat → Int64)) := J_M_bracket_0 x1 mn mc ml mm mt mk mr my mb
def H_M_bracket_0 (p : Program) (l : Launch) (e : Env) (s : State) (m : MethodId) (args : Array Value) (below : List Frame) (meth : Method) (c : Code) (D : va_G) (A : Nat → Prop) (a : Nat → Nat) (k : Nat → ClassId) (mh : Int32) (ms : Nat → Int32) (mo : Nat → Int32) (mf : Nat → Int32) (f : Int32 → Int32 → Int32 → (Nat → Int32) → (Nat → Int32) → (Nat → Int32) → Int32 → (Nat → Int64) → (Nat → Int32) → (Nat → Int64) → Option (Int64 × (Nat → Int32) × (Nat → Int32) × Int32 × (Nat → Int64) × (Nat → Int32) × (Nat → Int64))) : Prop := ∀ (x1 : Int32) (mn : Int32) (mc : Int32) (ml : Nat → Int32) (mm : Nat → Int32) (mt : Nat → Int32) (mk : Int32) (mr : Nat → Int64) (my : Nat → Int32) (mb : Nat → Int64) (r : Int64 × (Nat → Int32) × (Nat → Int32) × Int32 × (Nat → Int64) × (Nat → Int32) × (Nat → Int64)), f x1 mn mc ml mm mt mk mr my mb = some r → ∀ (H : Heap) (locs : List Loc) (ls : Array Slot), va_P D classes (wM a k mh mn mc ms ml mm mt mo mk mr my mb mf) H → va_D A (wM a k mh mn mc ms ml mm mt mo mk mr my mb mf) → va_S A s.heap H locs → lv_has ls 2 [(0, .ref (a 20)), (1, .int x1)] → W p l e (rm_M_bracket) s m args below meth c H locs 0 0 (MQ below (qc_M_bracket D A a k mh mn mc ms ml mo mf r) args s 0 0 A) (F0 m 0 ls [])
set_option maxHeartbeats 4000000 in
set_option maxRecDepth 100000 in
theorem k_M_bracket_0 {p : Program} {l : Launch} {e : Env} {s : State} {m : MethodId} {args : Array Value} {below : List Frame} {meth : Method} {c : Code} {D : va_G} {A : Nat → Prop} {a : Nat → Nat} {k : Nat → ClassId} {mh : Int32} {ms : Nat → Int32} {mo : Nat → Int32} {mf : Nat → Int32} (C : cx D [(k 21, .int), (k 22, .int), (k 23, .int), (k 24, .boolean), (k 25, .boolean), (k 26, .long), (k 27, .int), (k 28, .long), (k 29, .int)] R_M b_M_bracket 2 (some .long) A p s m args meth c) : H_M_bracket_0 p l e s m args below meth c D A a k mh ms mo mf (J_M_bracket_0) := by
  obtain ⟨hx, hb, hr, hml, hown, ht, hlk, hA, hK⟩ := id C
  intro x1 mn mc ml mm mt mk mr my mb r h H locs ls hP hD hS hl
  unfold J_M_bracket_0 at h
  refine lv_aload_n hx hb d_M_bracket_0 rfl (lv_at hl 0 rfl) ?_
  obtain ⟨v_1, e_1, h⟩ := bd_some h
  refine go_Vv (As := []) (rest := []) (wc := (wM a k mh mn mc ms ml mm mt mo mk mr my mb mf)) (wr := []) (w1 := (wM a k mh mn mc ms ml v_1.1 v_1.2.1 mo v_1.2.2.1 v_1.2.2.2.1 v_1.2.2.2.2.1 v_1.2.2.2.2.2 mf)) (w2 := (wM a k mh mn mc ms ml v_1.1 v_1.2.1 mo v_1.2.2.1 v_1.2.2.2.1 v_1.2.2.2.2.1 v_1.2.2.2.2.2 mf)) (tc := [(k 21, .int), (k 22, .int), (k 23, .int), (k 24, .boolean), (k 25, .boolean), (k 26, .long), (k 27, .int), (k 28, .long), (k 29, .int)]) hx hb hml hown ht (c_M_know l D a k H.size mh mn mc ms ml mm mt mo mk mr my mb mf v_1 e_1) g_M_78 ⟨rfl, rfl⟩ (n := 0) (by decide +kernel) ⟨(Nat.le_of_ble_eq_true rfl), (Nat.le_of_ble_eq_true rfl)⟩ hP hD hK hS hA ⟨Nat.zero_le _, Nat.zero_le _⟩ [0, 1, 2, 3, 4, 5, 6, 7, 8, 9] [] [0, 1, 2, 3, 4, 5, 6, 7, 8] [0, 1, 2, 3, 4, 5, 6, 7, 8, 9] rfl rfl rfl rfl (by decide) (by decide) (by decide) rfl (by decide) 0 rfl rfl rfl rfl rfl hl.1 (Nat.le_of_ble_eq_true rfl) d_M_bracket_1 (fun H locs hP hD hS => ?_)
  refine lv_iload_n hx hb d_M_bracket_4 rfl (lv_at hl 1 rfl) ?_
  refine lv_bipush (v := (-128)) hx hb d_M_bracket_5 (by decide) ?_
  refine lv_icmp_lt (tgt := 17) hx hb d_M_bracket_7 (by decide) (fun c_2 => ?_) (fun c_2 => ?_)
  · have h := ite_T c_2 h
    refine lv_lconst (v := 0) hx hb d_M_bracket_17 (by decide) ?_
    refine lv_goto (tgt := 31) hx hb d_M_bracket_18 (by decide) ?_
    cases h
    exact W.lret hx hb hr (fun t ht hW => ⟨⟨_, (), rfl, rfl, by rw [ht]; exact hP, va_K.moved hW.alike hK, hD⟩, hS.F ht⟩) hS.2.2 d_M_bracket_31 hlk
  · have h := ite_F c_2 h
    refine lv_iload_n hx hb d_M_bracket_10 rfl (lv_at hl 1 rfl) ?_
    refine lv_sipush (v := 128) hx hb d_M_bracket_11 (by decide) ?_
    refine lv_icmp_le (tgt := 21) hx hb d_M_bracket_14 (by decide) (fun c_3 => ?_) (fun c_3 => ?_)
    · have h := ite_T c_3 h
      refine lv_aload_n hx hb d_M_bracket_21 rfl (lv_at hl 0 rfl) ?_
      refine va_get (D := D) (ci := 3) (v := .ref (a 26)) (C := R_M) (T := F_M) (N := 13) hx hb ht iC_M hown hK hP 0 rfl rfl 9 (by decide) (ht _ ix_189) (fun _ h9 => h9) rfl d_M_bracket_22 ?_
      refine lv_sipush (v := 128) hx hb d_M_bracket_25 (by decide) ?_
      refine lv_iload_n hx hb d_M_bracket_28 rfl (lv_at hl 1 rfl) ?_
      refine lv_iadd hx hb d_M_bracket_29 ?_
      obtain ⟨g_4, h⟩ := gd_some h
      refine va_lald hx hb hK hP 6 5 rfl rfl (inb_in g_4) d_M_bracket_30 ?_
      cases h
      exact W.lret hx hb hr (fun t ht hW => ⟨⟨_, (), rfl, rfl, by rw [ht]; exact hP, va_K.moved hW.alike hK, hD⟩, hS.F ht⟩) hS.2.2 d_M_bracket_31 hlk
    · have h := ite_F c_3 h
      refine lv_lconst (v := 0) hx hb d_M_bracket_17 (by decide) ?_
      refine lv_goto (tgt := 31) hx hb d_M_bracket_18 (by decide) ?_
      cases h
      exact W.lret hx hb hr (fun t ht hW => ⟨⟨_, (), rfl, rfl, by rw [ht]; exact hP, va_K.moved hW.alike hK, hD⟩, hS.F ht⟩) hS.2.2 d_M_bracket_31 hlk
set_option maxRecDepth 20000 in
theorem c_M_bracket (l : Launch) (D : va_G) (a : Nat → Nat) (k : Nat → ClassId) (sz : Nat) (x1 : Int32) (mh : Int32) (mn : Int32) (mc : Int32) (ms : Nat → Int32) (ml : Nat → Int32) (mm : Nat → Int32) (mt : Nat → Int32) (mo : Nat → Int32) (mk : Int32) (mr : Nat → Int64) (my : Nat → Int32) (mb : Nat → Int64) (mf : Nat → Int32) (r : Int64 × (Nat → Int32) × (Nat → Int32) × Int32 × (Nat → Int64) × (Nat → Int32) × (Nat → Int64)) (h : F_M_bracket x1 mn mc ml mm mt mk mr my mb = some r) : Met l y_M_bracket (Cond.code y_M_bracket b_M_bracket 2 (some .long) :: lw_g) (rm_M_bracket) (va_Pc [.ref (a 20), .int x1] (pcW D [(k 21, .int), (k 22, .int), (k 23, .int), (k 24, .boolean), (k 25, .boolean), (k 26, .long), (k 27, .int), (k 28, .long), (k 29, .int)] (wM a k mh mn mc ms ml mm mt mo mk mr my mb mf) sz)) (qc_M_bracket D (va_A (wM a k mh mn mc ms ml mm mt mo mk mr my mb mf) sz) a k mh mn mc ms ml mo mf r) 0 0 (va_A (wM a k mh mn mc ms ml mm mt mo mk mr my mb mf) sz) := by
  refine Met.ofW (cc := b_M_bracket) (maxL := 2) (ret := (some .long)) (by decide) rfl ?_
  intro p e s m args below meth c s₁ B hml hv
  obtain ⟨rfl, hsz, hP, hK, hD0⟩ := hv
  have hts := atoms_spec (ws := Cond.code y_M_bracket b_M_bracket 2 (some .long) :: lw_g) B.pre
  subst hsz
  have hD := hD0.self (sz := s.heap.size)
  have hl := lv_entry ([.ref (a 20), .int x1]) (n := 2) (Nat.le_of_ble_eq_true rfl)
  rw [lg_entry_eq]
  generalize (lg_sl ([.ref (a 20), .int x1]) ++ List.replicate (2 - (lg_sl ([.ref (a 20), .int x1])).length) Slot.unset).toArray = ls at hl ⊢
  exact k_M_bracket_0 ⟨B.exec, B.bytes, B.returns, hml, findClass_of_methodNamed B.named, fun w hw => hts w (List.mem_cons_of_mem _ hw), B.notSynchronized, fun q h => Or.inr h, hK⟩ _ _ _ _ _ _ _ _ _ _ _ h _ _ _ hP hD va_S.rf hl

def rm_M_jones : Room := { frames := 4, cells := 0, slots := 0, locals := 89 }
def qc_M_jones (D : va_G) (A : Nat → Prop) (a : Nat → Nat) (k : Nat → ClassId) (mh : Int32) (mn : Int32) (mc : Int32) (ms : Nat → Int32) (ml : Nat → Int32) (mo : Nat → Int32) (mf : Nat → Int32) (r : Int64 × (Nat → Int32) × (Nat → Int32) × Int32 × (Nat → Int64) × (Nat → Int32) × (Nat → Int64)) : Array Value → State → Outcome → State → Prop := va_Ql (fun (r1 : Int64) (_ : Unit) => r1 = r.1) (poW D [(k 21, .int), (k 22, .int), (k 23, .int), (k 24, .boolean), (k 25, .boolean), (k 26, .long), (k 27, .int), (k 28, .long), (k 29, .int)] (wM a k mh mn mc ms ml r.2.1 r.2.2.1 mo r.2.2.2.1 r.2.2.2.2.1 r.2.2.2.2.2.1 r.2.2.2.2.2.2 mf) A) A
def J_M_jones_0 (x1 : Int32) (mn : Int32) (mc : Int32) (ms : Nat → Int32) (ml : Nat → Int32) (mm : Nat → Int32) (mt : Nat → Int32) (mk : Int32) (mr : Nat → Int64) (my : Nat → Int32) (mb : Nat → Int64) : Option (Int64 × (Nat → Int32) × (Nat → Int32) × Int32 × (Nat → Int64) × (Nat → Int32) × (Nat → Int64)) :=
  (Option.bind (F_M_signs mn ms) (fun v_1 => (if x1 < (-1000 : Int32) then some ((0 : Int64), mm, mt, mk, mr, my, mb) else (if x1 ≤ (1000 : Int32) then (if (v_1 - v_1 / (2 : Int32) * (2 : Int32)) = 0 then (Option.bind (F_M_bracket (x1 + ((3 : Int32) * v_1)) mn mc ml mm mt mk mr my mb) (fun v_6 => some (v_6.1, v_6.2.1, v_6.2.2.1, v_6.2.2.2.1, v_6.2.2.2.2.1, v_6.2.2.2.2.2.1, v_6.2.2.2.2.2.2))) else (Option.bind (F_M_bracket (x1 + ((3 : Int32) * v_1)) mn mc ml mm mt mk mr my mb) (fun v_5 => some ((-v_5.1), v_5.2.1, v_5.2.2.1, v_5.2.2.2.1, v_5.2.2.2.2.1, v_5.2.2.2.2.2.1, v_5.2.2.2.2.2.2)))) else some ((0 : Int64), mm, mt, mk, mr, my, mb)))))
def F_M_jones (x1 : Int32) (mn : Int32) (mc : Int32) (ms : Nat → Int32) (ml : Nat → Int32) (mm : Nat → Int32) (mt : Nat → Int32) (mk : Int32) (mr : Nat → Int64) (my : Nat → Int32) (mb : Nat → Int64) : Option (Int64 × (Nat → Int32) × (Nat → Int32) × Int32 × (Nat → Int64) × (Nat → Int32) × (Nat → Int64)) := J_M_jones_0 x1 mn mc ms ml mm mt mk mr my mb
def H_M_jones_0 (p : Program) (l : Launch) (e : Env) (s : State) (m : MethodId) (args : Array Value) (below : List Frame) (meth : Method) (c : Code) (D : va_G) (A : Nat → Prop) (a : Nat → Nat) (k : Nat → ClassId) (mh : Int32) (mo : Nat → Int32) (mf : Nat → Int32) (f : Int32 → Int32 → Int32 → (Nat → Int32) → (Nat → Int32) → (Nat → Int32) → (Nat → Int32) → Int32 → (Nat → Int64) → (Nat → Int32) → (Nat → Int64) → Option (Int64 × (Nat → Int32) × (Nat → Int32) × Int32 × (Nat → Int64) × (Nat → Int32) × (Nat → Int64))) : Prop := ∀ (x1 : Int32) (mn : Int32) (mc : Int32) (ms : Nat → Int32) (ml : Nat → Int32) (mm : Nat → Int32) (mt : Nat → Int32) (mk : Int32) (mr : Nat → Int64) (my : Nat → Int32) (mb : Nat → Int64) (r : Int64 × (Nat → Int32) × (Nat → Int32) × Int32 × (Nat → Int64) × (Nat → Int32) × (Nat → Int64)), f x1 mn mc ms ml mm mt mk mr my mb = some r → ∀ (H : Heap) (locs : List Loc) (ls : Array Slot), va_P D classes (wM a k mh mn mc ms ml mm mt mo mk mr my mb mf) H → va_D A (wM a k mh mn mc ms ml mm mt mo mk mr my mb mf) → va_S A s.heap H locs → lv_has ls 3 [(0, .ref (a 20)), (1, .int x1)] → W p l e (rm_M_jones) s m args below meth c H locs 0 0 (MQ below (qc_M_jones D A a k mh mn mc ms ml mo mf r) args s 0 0 A) (F0 m 0 ls [])
set_option maxHeartbeats 4000000 in
set_option maxRecDepth 100000 in
theorem k_M_jones_0 {p : Program} {l : Launch} {e : Env} {s : State} {m : MethodId} {args : Array Value} {below : List Frame} {meth : Method} {c : Code} {D : va_G} {A : Nat → Prop} {a : Nat → Nat} {k : Nat → ClassId} {mh : Int32} {mo : Nat → Int32} {mf : Nat → Int32} (C : cx D [(k 21, .int), (k 22, .int), (k 23, .int), (k 24, .boolean), (k 25, .boolean), (k 26, .long), (k 27, .int), (k 28, .long), (k 29, .int)] R_M b_M_jones 3 (some .long) A p s m args meth c) : H_M_jones_0 p l e s m args below meth c D A a k mh mo mf (J_M_jones_0) := by
  obtain ⟨hx, hb, hr, hml, hown, ht, hlk, hA, hK⟩ := id C
  intro x1 mn mc ms ml mm mt mk mr my mb r h H locs ls hP hD hS hl
  unfold J_M_jones_0 at h
  refine lv_aload_n hx hb d_M_jones_0 rfl (lv_at hl 0 rfl) ?_
  obtain ⟨v_1, e_1, h⟩ := bd_some h
  refine go_Vi (r := v_1) (As := []) (rest := []) (wc := (wM a k mh mn mc ms ml mm mt mo mk mr my mb mf)) (wr := []) (w1 := (wM a k mh mn mc ms ml mm mt mo mk mr my mb mf)) (w2 := (wM a k mh mn mc ms ml mm mt mo mk mr my mb mf)) (tc := [(k 21, .int), (k 22, .int), (k 23, .int), (k 24, .boolean), (k 25, .boolean), (k 26, .long), (k 27, .int), (k 28, .long), (k 29, .int)]) hx hb hml hown ht (c_M_signs l D a k H.size mh mn mc ms ml mm mt mo mk mr my mb mf v_1 e_1) g_M_81 ⟨rfl, rfl⟩ (n := 0) (by decide +kernel) ⟨(Nat.le_of_ble_eq_true rfl), (Nat.le_of_ble_eq_true rfl)⟩ hP hD hK hS hA ⟨Nat.zero_le _, Nat.zero_le _⟩ [0, 1, 2, 3, 4, 5, 6, 7, 8, 9] [] [0, 1, 2, 3, 4, 5, 6, 7, 8] [0, 1, 2, 3, 4, 5, 6, 7, 8, 9] rfl rfl rfl rfl (by decide) (by decide) (by decide) rfl (by decide) 0 rfl rfl rfl rfl rfl hl.1 (Nat.le_of_ble_eq_true rfl) d_M_jones_1 (fun H locs hP hD hS => ?_)
  refine lv_istore_n (lv' := [(2, .int v_1), (0, .ref (a 20)), (1, .int x1)]) hx hb d_M_jones_4 rfl hl (by decide) rfl (fun ls hl => ?_)
  refine lv_iload_n hx hb d_M_jones_5 rfl (lv_at hl 2 rfl) ?_
  refine lv_sipush (v := (-1000)) hx hb d_M_jones_6 (by decide) ?_
  refine lv_icmp_lt (tgt := 19) hx hb d_M_jones_9 (by decide) (fun c_2 => ?_) (fun c_2 => ?_)
  · have h := ite_T c_2 h
    refine lv_lconst (v := 0) hx hb d_M_jones_19 (by decide) ?_
    cases h
    exact W.lret hx hb hr (fun t ht hW => ⟨⟨_, (), rfl, rfl, by rw [ht]; exact hP, va_K.moved hW.alike hK, hD⟩, hS.F ht⟩) hS.2.2 d_M_jones_20 hlk
  · have h := ite_F c_2 h
    refine lv_iload_n hx hb d_M_jones_12 rfl (lv_at hl 2 rfl) ?_
    refine lv_sipush (v := 1000) hx hb d_M_jones_13 (by decide) ?_
    refine lv_icmp_le (tgt := 21) hx hb d_M_jones_16 (by decide) (fun c_3 => ?_) (fun c_3 => ?_)
    · have h := ite_T c_3 h
      refine lv_iload_n hx hb d_M_jones_21 rfl (lv_at hl 0 rfl) ?_
      refine lv_iconst (v := 2) hx hb d_M_jones_22 (by decide) ?_
      refine lv_irem hx hb d_M_jones_23 (by decide) ?_
      refine lv_if_ne (tgt := 39) hx hb d_M_jones_24 (by decide) (fun c_4 => ?_) (fun c_4 => ?_)
      · have h := ite_F c_4 h
        refine lv_aload_n hx hb d_M_jones_39 rfl (lv_at hl 1 rfl) ?_
        refine lv_iload_n hx hb d_M_jones_40 rfl (lv_at hl 2 rfl) ?_
        refine lv_iconst (v := 3) hx hb d_M_jones_41 (by decide) ?_
        refine lv_iload_n hx hb d_M_jones_42 rfl (lv_at hl 0 rfl) ?_
        refine lv_imul hx hb d_M_jones_43 ?_
        refine lv_iadd hx hb d_M_jones_44 ?_
        obtain ⟨v_5, e_5, h⟩ := bd_some h
        refine go_Vl (r := v_5.1) (As := [.int (x1 + ((3 : Int32) * v_1))]) (rest := []) (wc := (wM a k mh mn mc ms ml mm mt mo mk mr my mb mf)) (wr := []) (w1 := (wM a k mh mn mc ms ml v_5.2.1 v_5.2.2.1 mo v_5.2.2.2.1 v_5.2.2.2.2.1 v_5.2.2.2.2.2.1 v_5.2.2.2.2.2.2 mf)) (w2 := (wM a k mh mn mc ms ml v_5.2.1 v_5.2.2.1 mo v_5.2.2.2.1 v_5.2.2.2.2.1 v_5.2.2.2.2.2.1 v_5.2.2.2.2.2.2 mf)) (tc := [(k 21, .int), (k 22, .int), (k 23, .int), (k 24, .boolean), (k 25, .boolean), (k 26, .long), (k 27, .int), (k 28, .long), (k 29, .int)]) hx hb hml hown ht (c_M_bracket l D a k H.size (x1 + ((3 : Int32) * v_1)) mh mn mc ms ml mm mt mo mk mr my mb mf v_5 e_5) g_M_84 ⟨rfl, rfl⟩ (n := 1) (by decide +kernel) ⟨(Nat.le_of_ble_eq_true rfl), (Nat.le_of_ble_eq_true rfl)⟩ hP hD hK hS hA ⟨Nat.zero_le _, Nat.zero_le _⟩ [0, 1, 2, 3, 4, 5, 6, 7, 8, 9] [] [0, 1, 2, 3, 4, 5, 6, 7, 8] [0, 1, 2, 3, 4, 5, 6, 7, 8, 9] rfl rfl rfl rfl (by decide) (by decide) (by decide) rfl (by decide) 0 rfl rfl rfl rfl rfl hl.1 (Nat.le_of_ble_eq_true rfl) d_M_jones_45 (fun H locs hP hD hS => ?_)
        refine lv_lneg hx hb d_M_jones_48 ?_
        cases h
        exact W.lret hx hb hr (fun t ht hW => ⟨⟨_, (), rfl, rfl, by rw [ht]; exact hP, va_K.moved hW.alike hK, hD⟩, hS.F ht⟩) hS.2.2 d_M_jones_49 hlk
      · have h := ite_T c_4 h
        refine lv_aload_n hx hb d_M_jones_27 rfl (lv_at hl 1 rfl) ?_
        refine lv_iload_n hx hb d_M_jones_28 rfl (lv_at hl 2 rfl) ?_
        refine lv_iconst (v := 3) hx hb d_M_jones_29 (by decide) ?_
        refine lv_iload_n hx hb d_M_jones_30 rfl (lv_at hl 0 rfl) ?_
        refine lv_imul hx hb d_M_jones_31 ?_
        refine lv_iadd hx hb d_M_jones_32 ?_
        obtain ⟨v_6, e_6, h⟩ := bd_some h
        refine go_Vl (r := v_6.1) (As := [.int (x1 + ((3 : Int32) * v_1))]) (rest := []) (wc := (wM a k mh mn mc ms ml mm mt mo mk mr my mb mf)) (wr := []) (w1 := (wM a k mh mn mc ms ml v_6.2.1 v_6.2.2.1 mo v_6.2.2.2.1 v_6.2.2.2.2.1 v_6.2.2.2.2.2.1 v_6.2.2.2.2.2.2 mf)) (w2 := (wM a k mh mn mc ms ml v_6.2.1 v_6.2.2.1 mo v_6.2.2.2.1 v_6.2.2.2.2.1 v_6.2.2.2.2.2.1 v_6.2.2.2.2.2.2 mf)) (tc := [(k 21, .int), (k 22, .int), (k 23, .int), (k 24, .boolean), (k 25, .boolean), (k 26, .long), (k 27, .int), (k 28, .long), (k 29, .int)]) hx hb hml hown ht (c_M_bracket l D a k H.size (x1 + ((3 : Int32) * v_1)) mh mn mc ms ml mm mt mo mk mr my mb mf v_6 e_6) g_M_84 ⟨rfl, rfl⟩ (n := 1) (by decide +kernel) ⟨(Nat.le_of_ble_eq_true rfl), (Nat.le_of_ble_eq_true rfl)⟩ hP hD hK hS hA ⟨Nat.zero_le _, Nat.zero_le _⟩ [0, 1, 2, 3, 4, 5, 6, 7, 8, 9] [] [0, 1, 2, 3, 4, 5, 6, 7, 8] [0, 1, 2, 3, 4, 5, 6, 7, 8, 9] rfl rfl rfl rfl (by decide) (by decide) (by decide) rfl (by decide) 0 rfl rfl rfl rfl rfl hl.1 (Nat.le_of_ble_eq_true rfl) d_M_jones_33 (fun H locs hP hD hS => ?_)
        refine lv_goto (tgt := 49) hx hb d_M_jones_36 (by decide) ?_
        cases h
        exact W.lret hx hb hr (fun t ht hW => ⟨⟨_, (), rfl, rfl, by rw [ht]; exact hP, va_K.moved hW.alike hK, hD⟩, hS.F ht⟩) hS.2.2 d_M_jones_49 hlk
    · have h := ite_F c_3 h
      refine lv_lconst (v := 0) hx hb d_M_jones_19 (by decide) ?_
      cases h
      exact W.lret hx hb hr (fun t ht hW => ⟨⟨_, (), rfl, rfl, by rw [ht]; exact hP, va_K.moved hW.alike hK, hD⟩, hS.F ht⟩) hS.2.2 d_M_jones_20 hlk
set_option maxRecDepth 20000 in
theorem c_M_jones (l : Launch) (D : va_G) (a : Nat → Nat) (k : Nat → ClassId) (sz : Nat) (x1 : Int32) (mh : Int32) (mn : Int32) (mc : Int32) (ms : Nat → Int32) (ml : Nat → Int32) (mm : Nat → Int32) (mt : Nat → Int32) (mo : Nat → Int32) (mk : Int32) (mr : Nat → Int64) (my : Nat → Int32) (mb : Nat → Int64) (mf : Nat → Int32) (r : Int64 × (Nat → Int32) × (Nat → Int32) × Int32 × (Nat → Int64) × (Nat → Int32) × (Nat → Int64)) (h : F_M_jones x1 mn mc ms ml mm mt mk mr my mb = some r) : Met l y_M_jones (Cond.code y_M_jones b_M_jones 3 (some .long) :: lw_g) (rm_M_jones) (va_Pc [.ref (a 20), .int x1] (pcW D [(k 21, .int), (k 22, .int), (k 23, .int), (k 24, .boolean), (k 25, .boolean), (k 26, .long), (k 27, .int), (k 28, .long), (k 29, .int)] (wM a k mh mn mc ms ml mm mt mo mk mr my mb mf) sz)) (qc_M_jones D (va_A (wM a k mh mn mc ms ml mm mt mo mk mr my mb mf) sz) a k mh mn mc ms ml mo mf r) 0 0 (va_A (wM a k mh mn mc ms ml mm mt mo mk mr my mb mf) sz) := by
  refine Met.ofW (cc := b_M_jones) (maxL := 3) (ret := (some .long)) (by decide) rfl ?_
  intro p e s m args below meth c s₁ B hml hv
  obtain ⟨rfl, hsz, hP, hK, hD0⟩ := hv
  have hts := atoms_spec (ws := Cond.code y_M_jones b_M_jones 3 (some .long) :: lw_g) B.pre
  subst hsz
  have hD := hD0.self (sz := s.heap.size)
  have hl := lv_entry ([.ref (a 20), .int x1]) (n := 3) (Nat.le_of_ble_eq_true rfl)
  rw [lg_entry_eq]
  generalize (lg_sl ([.ref (a 20), .int x1]) ++ List.replicate (3 - (lg_sl ([.ref (a 20), .int x1])).length) Slot.unset).toArray = ls at hl ⊢
  exact k_M_jones_0 ⟨B.exec, B.bytes, B.returns, hml, findClass_of_methodNamed B.named, fun w hw => hts w (List.mem_cons_of_mem _ hw), B.notSynchronized, fun q h => Or.inr h, hK⟩ _ _ _ _ _ _ _ _ _ _ _ _ h _ _ _ hP hD va_S.rf hl

def rm_M_span : Room := { frames := 3, cells := 0, slots := 0, locals := 68 }
def qc_M_span (D : va_G) (A : Nat → Prop) (a : Nat → Nat) (k : Nat → ClassId) (mh : Int32) (mn : Int32) (mc : Int32) (ms : Nat → Int32) (ml : Nat → Int32) (mo : Nat → Int32) (mf : Nat → Int32) (r : Int32 × (Nat → Int32) × (Nat → Int32) × Int32 × (Nat → Int64) × (Nat → Int32) × (Nat → Int64)) : Array Value → State → Outcome → State → Prop := va_Qi (fun (r1 : Int32) (_ : Unit) => r1 = r.1) (poW D [(k 21, .int), (k 22, .int), (k 23, .int), (k 24, .boolean), (k 25, .boolean), (k 26, .long), (k 27, .int), (k 28, .long), (k 29, .int)] (wM a k mh mn mc ms ml r.2.1 r.2.2.1 mo r.2.2.2.1 r.2.2.2.2.1 r.2.2.2.2.2.1 r.2.2.2.2.2.2 mf) A) A
def J_M_span_84 (x2 : Int32) (x3 : Int32) (x4 : Int32) (y0 : Int32) (mn : Int32) (mc : Int32) (ms : Nat → Int32) (ml : Nat → Int32) (mm : Nat → Int32) (mt : Nat → Int32) (mk : Int32) (mr : Nat → Int64) (my : Nat → Int32) (mb : Nat → Int64) : Option (Int32 × (Nat → Int32) × (Nat → Int32) × Int32 × (Nat → Int64) × (Nat → Int32) × (Nat → Int64)) :=
  (if x2 = 0 then some ((x3 - y0), mm, mt, mk, mr, my, mb) else some ((x4 - y0), mm, mt, mk, mr, my, mb))
def J_M_span_83 (x2 : Int32) (x3 : Int32) (x4 : Int32) (mn : Int32) (mc : Int32) (ms : Nat → Int32) (ml : Nat → Int32) (mm : Nat → Int32) (mt : Nat → Int32) (mk : Int32) (mr : Nat → Int64) (my : Nat → Int32) (mb : Nat → Int64) : Option (Int32 × (Nat → Int32) × (Nat → Int32) × Int32 × (Nat → Int64) × (Nat → Int32) × (Nat → Int64)) :=
  J_M_span_84 x2 x3 x4 (0 : Int32) mn mc ms ml mm mt mk mr my mb
def J_M_span_51 (rec16 : Int32 → Int32 → Int32 → Int32 → Int32 → Int32 → Int32 → Int32 → (Nat → Int32) → (Nat → Int32) → (Nat → Int32) → (Nat → Int32) → Int32 → (Nat → Int64) → (Nat → Int32) → (Nat → Int64) → Option (Int32 × (Nat → Int32) × (Nat → Int32) × Int32 × (Nat → Int64) × (Nat → Int32) × (Nat → Int64))) (x1 : Int32) (x2 : Int32) (x6 : Int32) (y0 : Int32) (mn : Int32) (mc : Int32) (ms : Nat → Int32) (ml : Nat → Int32) (mm : Nat → Int32) (mt : Nat → Int32) (mk : Int32) (mr : Nat → Int64) (my : Nat → Int32) (mb : Nat → Int64) : Option (Int32 × (Nat → Int32) × (Nat → Int32) × Int32 × (Nat → Int64) × (Nat → Int32) × (Nat → Int64)) :=
  rec16 x1 x2 y0 x6 (0 : Int32) (x6 + 1) mn mc ms ml mm mt mk mr my mb
def J_M_span_16 (rec16 : Int32 → Int32 → Int32 → Int32 → Int32 → Int32 → Int32 → Int32 → (Nat → Int32) → (Nat → Int32) → (Nat → Int32) → (Nat → Int32) → Int32 → (Nat → Int64) → (Nat → Int32) → (Nat → Int64) → Option (Int32 × (Nat → Int32) × (Nat → Int32) × Int32 × (Nat → Int64) × (Nat → Int32) × (Nat → Int64))) (x1 : Int32) (x2 : Int32) (x3 : Int32) (x4 : Int32) (x5 : Int32) (x6 : Int32) (mn : Int32) (mc : Int32) (ms : Nat → Int32) (ml : Nat → Int32) (mm : Nat → Int32) (mt : Nat → Int32) (mk : Int32) (mr : Nat → Int64) (my : Nat → Int32) (mb : Nat → Int64) : Option (Int32 × (Nat → Int32) × (Nat → Int32) × Int32 × (Nat → Int64) × (Nat → Int32) × (Nat → Int64)) :=
  (if (128 : Int32) < x6 then (if x1 = 0 then J_M_span_83 x2 x3 x4 mn mc ms ml mm mt mk mr my mb else (if x5 = 0 then (Option.bind (F_M_signs mn ms) (fun v_4 => J_M_span_84 x2 x3 x4 ((3 : Int32) * v_4) mn mc ms ml mm mt mk mr my mb)) else J_M_span_83 x2 x3 x4 mn mc ms ml mm mt mk mr my mb)) else (if inb ((128 : Int32) + x6) 260 then (if (lg_cmp (mr ((128 : Int32) + x6).toNatClampNeg) (0 : Int64)) = 0 then rec16 x1 x2 x3 x4 x5 (x6 + 1) mn mc ms ml mm mt mk mr my mb else (if x5 = 0 then J_M_span_51 rec16 x1 x2 x6 x3 mn mc ms ml mm mt mk mr my mb else J_M_span_51 rec16 x1 x2 x6 x6 mn mc ms ml mm mt mk mr my mb)) else none))
def L_M_span_16 : Nat → Int32 → Int32 → Int32 → Int32 → Int32 → Int32 → Int32 → Int32 → (Nat → Int32) → (Nat → Int32) → (Nat → Int32) → (Nat → Int32) → Int32 → (Nat → Int64) → (Nat → Int32) → (Nat → Int64) → Option (Int32 × (Nat → Int32) × (Nat → Int32) × Int32 × (Nat → Int64) × (Nat → Int32) × (Nat → Int64))
  | 0 => fun _ _ _ _ _ _ _ _ _ _ _ _ _ _ _ _ => none
  | n + 1 => J_M_span_16 (L_M_span_16 n)
def J_M_span_0 (x1 : Int32) (x2 : Int32) (mn : Int32) (mc : Int32) (ms : Nat → Int32) (ml : Nat → Int32) (mm : Nat → Int32) (mt : Nat → Int32) (mk : Int32) (mr : Nat → Int64) (my : Nat → Int32) (mb : Nat → Int64) : Option (Int32 × (Nat → Int32) × (Nat → Int32) × Int32 × (Nat → Int64) × (Nat → Int32) × (Nat → Int64)) :=
  (Option.bind (F_M_know mn mc ml mm mt mk mr my mb) (fun v_1 => L_M_span_16 fu x1 x2 (0 : Int32) (0 : Int32) (1 : Int32) (-128 : Int32) mn mc ms ml v_1.1 v_1.2.1 v_1.2.2.1 v_1.2.2.2.1 v_1.2.2.2.2.1 v_1.2.2.2.2.2))
def F_M_span (x1 : Int32) (x2 : Int32) (mn : Int32) (mc : Int32) (ms : Nat → Int32) (ml : Nat → Int32) (mm : Nat → Int32) (mt : Nat → Int32) (mk : Int32) (mr : Nat → Int64) (my : Nat → Int32) (mb : Nat → Int64) : Option (Int32 × (Nat → Int32) × (Nat → Int32) × Int32 × (Nat → Int64) × (Nat → Int32) × (Nat → Int64)) := J_M_span_0 x1 x2 mn mc ms ml mm mt mk mr my mb
def H_M_span_84 (p : Program) (l : Launch) (e : Env) (s : State) (m : MethodId) (args : Array Value) (below : List Frame) (meth : Method) (c : Code) (D : va_G) (A : Nat → Prop) (a : Nat → Nat) (k : Nat → ClassId) (mh : Int32) (mo : Nat → Int32) (mf : Nat → Int32) (f : Int32 → Int32 → Int32 → Int32 → Int32 → Int32 → (Nat → Int32) → (Nat → Int32) → (Nat → Int32) → (Nat → Int32) → Int32 → (Nat → Int64) → (Nat → Int32) → (Nat → Int64) → Option (Int32 × (Nat → Int32) × (Nat → Int32) × Int32 × (Nat → Int64) × (Nat → Int32) × (Nat → Int64))) : Prop := ∀ (x2 : Int32) (x3 : Int32) (x4 : Int32) (y0 : Int32) (mn : Int32) (mc : Int32) (ms : Nat → Int32) (ml : Nat → Int32) (mm : Nat → Int32) (mt : Nat → Int32) (mk : Int32) (mr : Nat → Int64) (my : Nat → Int32) (mb : Nat → Int64) (r : Int32 × (Nat → Int32) × (Nat → Int32) × Int32 × (Nat → Int64) × (Nat → Int32) × (Nat → Int64)), f x2 x3 x4 y0 mn mc ms ml mm mt mk mr my mb = some r → ∀ (H : Heap) (locs : List Loc) (ls : Array Slot), va_P D classes (wM a k mh mn mc ms ml mm mt mo mk mr my mb mf) H → va_D A (wM a k mh mn mc ms ml mm mt mo mk mr my mb mf) → va_S A s.heap H locs → lv_has ls 7 [(2, .int x2), (3, .int x3), (4, .int x4)] → W p l e (rm_M_span) s m args below meth c H locs 0 0 (MQ below (qc_M_span D A a k mh mn mc ms ml mo mf r) args s 0 0 A) (F0 m 84 ls [.int y0])
def H_M_span_83 (p : Program) (l : Launch) (e : Env) (s : State) (m : MethodId) (args : Array Value) (below : List Frame) (meth : Method) (c : Code) (D : va_G) (A : Nat → Prop) (a : Nat → Nat) (k : Nat → ClassId) (mh : Int32) (mo : Nat → Int32) (mf : Nat → Int32) (f : Int32 → Int32 → Int32 → Int32 → Int32 → (Nat → Int32) → (Nat → Int32) → (Nat → Int32) → (Nat → Int32) → Int32 → (Nat → Int64) → (Nat → Int32) → (Nat → Int64) → Option (Int32 × (Nat → Int32) × (Nat → Int32) × Int32 × (Nat → Int64) × (Nat → Int32) × (Nat → Int64))) : Prop := ∀ (x2 : Int32) (x3 : Int32) (x4 : Int32) (mn : Int32) (mc : Int32) (ms : Nat → Int32) (ml : Nat → Int32) (mm : Nat → Int32) (mt : Nat → Int32) (mk : Int32) (mr : Nat → Int64) (my : Nat → Int32) (mb : Nat → Int64) (r : Int32 × (Nat → Int32) × (Nat → Int32) × Int32 × (Nat → Int64) × (Nat → Int32) × (Nat → Int64)), f x2 x3 x4 mn mc ms ml mm mt mk mr my mb = some r → ∀ (H : Heap) (locs : List Loc) (ls : Array Slot), va_P D classes (wM a k mh mn mc ms ml mm mt mo mk mr my mb mf) H → va_D A (wM a k mh mn mc ms ml mm mt mo mk mr my mb mf) → va_S A s.heap H locs → lv_has ls 7 [(2, .int x2), (3, .int x3), (4, .int x4)] → W p l e (rm_M_span) s m args below meth c H locs 0 0 (MQ below (qc_M_span D A a k mh mn mc ms ml mo mf r) args s 0 0 A) (F0 m 83 ls [])
def H_M_span_51 (p : Program) (l : Launch) (e : Env) (s : State) (m : MethodId) (args : Array Value) (below : List Frame) (meth : Method) (c : Code) (D : va_G) (A : Nat → Prop) (a : Nat → Nat) (k : Nat → ClassId) (mh : Int32) (mo : Nat → Int32) (mf : Nat → Int32) (f : Int32 → Int32 → Int32 → Int32 → Int32 → Int32 → (Nat → Int32) → (Nat → Int32) → (Nat → Int32) → (Nat → Int32) → Int32 → (Nat → Int64) → (Nat → Int32) → (Nat → Int64) → Option (Int32 × (Nat → Int32) × (Nat → Int32) × Int32 × (Nat → Int64) × (Nat → Int32) × (Nat → Int64))) : Prop := ∀ (x1 : Int32) (x2 : Int32) (x6 : Int32) (y0 : Int32) (mn : Int32) (mc : Int32) (ms : Nat → Int32) (ml : Nat → Int32) (mm : Nat → Int32) (mt : Nat → Int32) (mk : Int32) (mr : Nat → Int64) (my : Nat → Int32) (mb : Nat → Int64) (r : Int32 × (Nat → Int32) × (Nat → Int32) × Int32 × (Nat → Int64) × (Nat → Int32) × (Nat → Int64)), f x1 x2 x6 y0 mn mc ms ml mm mt mk mr my mb = some r → ∀ (H : Heap) (locs : List Loc) (ls : Array Slot), va_P D classes (wM a k mh mn mc ms ml mm mt mo mk mr my mb mf) H → va_D A (wM a k mh mn mc ms ml mm mt mo mk mr my mb mf) → va_S A s.heap H locs → lv_has ls 7 [(0, .ref (a 20)), (1, .int x1), (2, .int x2), (6, .int x6)] → W p l e (rm_M_span) s m args below meth c H locs 0 0 (MQ below (qc_M_span D A a k mh mn mc ms ml mo mf r) args s 0 0 A) (F0 m 51 ls [.int y0])
def H_M_span_16 (p : Program) (l : Launch) (e : Env) (s : State) (m : MethodId) (args : Array Value) (below : List Frame) (meth : Method) (c : Code) (D : va_G) (A : Nat → Prop) (a : Nat → Nat) (k : Nat → ClassId) (mh : Int32) (mo : Nat → Int32) (mf : Nat → Int32) (f : Int32 → Int32 → Int32 → Int32 → Int32 → Int32 → Int32 → Int32 → (Nat → Int32) → (Nat → Int32) → (Nat → Int32) → (Nat → Int32) → Int32 → (Nat → Int64) → (Nat → Int32) → (Nat → Int64) → Option (Int32 × (Nat → Int32) × (Nat → Int32) × Int32 × (Nat → Int64) × (Nat → Int32) × (Nat → Int64))) : Prop := ∀ (x1 : Int32) (x2 : Int32) (x3 : Int32) (x4 : Int32) (x5 : Int32) (x6 : Int32) (mn : Int32) (mc : Int32) (ms : Nat → Int32) (ml : Nat → Int32) (mm : Nat → Int32) (mt : Nat → Int32) (mk : Int32) (mr : Nat → Int64) (my : Nat → Int32) (mb : Nat → Int64) (r : Int32 × (Nat → Int32) × (Nat → Int32) × Int32 × (Nat → Int64) × (Nat → Int32) × (Nat → Int64)), f x1 x2 x3 x4 x5 x6 mn mc ms ml mm mt mk mr my mb = some r → ∀ (H : Heap) (locs : List Loc) (ls : Array Slot), va_P D classes (wM a k mh mn mc ms ml mm mt mo mk mr my mb mf) H → va_D A (wM a k mh mn mc ms ml mm mt mo mk mr my mb mf) → va_S A s.heap H locs → lv_has ls 7 [(0, .ref (a 20)), (1, .int x1), (2, .int x2), (3, .int x3), (4, .int x4), (5, .int x5), (6, .int x6)] → W p l e (rm_M_span) s m args below meth c H locs 0 0 (MQ below (qc_M_span D A a k mh mn mc ms ml mo mf r) args s 0 0 A) (F0 m 16 ls [])
def H_M_span_0 (p : Program) (l : Launch) (e : Env) (s : State) (m : MethodId) (args : Array Value) (below : List Frame) (meth : Method) (c : Code) (D : va_G) (A : Nat → Prop) (a : Nat → Nat) (k : Nat → ClassId) (mh : Int32) (mo : Nat → Int32) (mf : Nat → Int32) (f : Int32 → Int32 → Int32 → Int32 → (Nat → Int32) → (Nat → Int32) → (Nat → Int32) → (Nat → Int32) → Int32 → (Nat → Int64) → (Nat → Int32) → (Nat → Int64) → Option (Int32 × (Nat → Int32) × (Nat → Int32) × Int32 × (Nat → Int64) × (Nat → Int32) × (Nat → Int64))) : Prop := ∀ (x1 : Int32) (x2 : Int32) (mn : Int32) (mc : Int32) (ms : Nat → Int32) (ml : Nat → Int32) (mm : Nat → Int32) (mt : Nat → Int32) (mk : Int32) (mr : Nat → Int64) (my : Nat → Int32) (mb : Nat → Int64) (r : Int32 × (Nat → Int32) × (Nat → Int32) × Int32 × (Nat → Int64) × (Nat → Int32) × (Nat → Int64)), f x1 x2 mn mc ms ml mm mt mk mr my mb = some r → ∀ (H : Heap) (locs : List Loc) (ls : Array Slot), va_P D classes (wM a k mh mn mc ms ml mm mt mo mk mr my mb mf) H → va_D A (wM a k mh mn mc ms ml mm mt mo mk mr my mb mf) → va_S A s.heap H locs → lv_has ls 7 [(0, .ref (a 20)), (1, .int x1), (2, .int x2)] → W p l e (rm_M_span) s m args below meth c H locs 0 0 (MQ below (qc_M_span D A a k mh mn mc ms ml mo mf r) args s 0 0 A) (F0 m 0 ls [])
set_option maxHeartbeats 4000000 in
set_option maxRecDepth 100000 in
theorem k_M_span_84 {p : Program} {l : Launch} {e : Env} {s : State} {m : MethodId} {args : Array Value} {below : List Frame} {meth : Method} {c : Code} {D : va_G} {A : Nat → Prop} {a : Nat → Nat} {k : Nat → ClassId} {mh : Int32} {mo : Nat → Int32} {mf : Nat → Int32} (C : cx D [(k 21, .int), (k 22, .int), (k 23, .int), (k 24, .boolean), (k 25, .boolean), (k 26, .long), (k 27, .int), (k 28, .long), (k 29, .int)] R_M b_M_span 7 (some .int) A p s m args meth c) : H_M_span_84 p l e s m args below meth c D A a k mh mo mf (J_M_span_84) := by
  obtain ⟨hx, hb, hr, hml, hown, ht, hlk, hA, hK⟩ := id C
  intro x2 x3 x4 y0 mn mc ms ml mm mt mk mr my mb r h H locs ls hP hD hS hl
  unfold J_M_span_84 at h
  refine lv_istore (lv' := [(6, .int y0), (2, .int x2), (3, .int x3), (4, .int x4)]) hx hb d_M_span_84 hl (by decide) rfl (fun ls hl => ?_)
  refine lv_iload_n hx hb d_M_span_86 rfl (lv_at hl 1 rfl) ?_
  refine lv_if_eq (tgt := 95) hx hb d_M_span_87 (by decide) (fun c_1 => ?_) (fun c_1 => ?_)
  · have h := ite_T c_1 h
    refine lv_iload_n hx hb d_M_span_95 rfl (lv_at hl 2 rfl) ?_
    refine lv_iload hx hb d_M_span_96 (lv_at hl 0 rfl) ?_
    refine lv_isub hx hb d_M_span_98 ?_
    cases h
    exact W.iret hx hb hr (fun t ht hW => ⟨⟨_, (), rfl, rfl, by rw [ht]; exact hP, va_K.moved hW.alike hK, hD⟩, hS.F ht⟩) hS.2.2 d_M_span_99 hlk
  · have h := ite_F c_1 h
    refine lv_iload hx hb d_M_span_90 (lv_at hl 3 rfl) ?_
    refine lv_goto (tgt := 96) hx hb d_M_span_92 (by decide) ?_
    refine lv_iload hx hb d_M_span_96 (lv_at hl 0 rfl) ?_
    refine lv_isub hx hb d_M_span_98 ?_
    cases h
    exact W.iret hx hb hr (fun t ht hW => ⟨⟨_, (), rfl, rfl, by rw [ht]; exact hP, va_K.moved hW.alike hK, hD⟩, hS.F ht⟩) hS.2.2 d_M_span_99 hlk
set_option maxHeartbeats 4000000 in
set_option maxRecDepth 100000 in
theorem k_M_span_83 {p : Program} {l : Launch} {e : Env} {s : State} {m : MethodId} {args : Array Value} {below : List Frame} {meth : Method} {c : Code} {D : va_G} {A : Nat → Prop} {a : Nat → Nat} {k : Nat → ClassId} {mh : Int32} {mo : Nat → Int32} {mf : Nat → Int32} (C : cx D [(k 21, .int), (k 22, .int), (k 23, .int), (k 24, .boolean), (k 25, .boolean), (k 26, .long), (k 27, .int), (k 28, .long), (k 29, .int)] R_M b_M_span 7 (some .int) A p s m args meth c) : H_M_span_83 p l e s m args below meth c D A a k mh mo mf (J_M_span_83) := by
  obtain ⟨hx, hb, hr, hml, hown, ht, hlk, hA, hK⟩ := id C
  intro x2 x3 x4 mn mc ms ml mm mt mk mr my mb r h H locs ls hP hD hS hl
  unfold J_M_span_83 at h
  refine lv_iconst (v := 0) hx hb d_M_span_83 (by decide) ?_
  exact (k_M_span_84 C) _ _ _ _ _ _ _ _ _ _ _ _ _ _ _ h _ _ _ hP hD hS (lv_sub hl [0, 1, 2] rfl)
set_option maxHeartbeats 4000000 in
set_option maxRecDepth 100000 in
theorem k_M_span_51 {p : Program} {l : Launch} {e : Env} {s : State} {m : MethodId} {args : Array Value} {below : List Frame} {meth : Method} {c : Code} {D : va_G} {A : Nat → Prop} {a : Nat → Nat} {k : Nat → ClassId} {mh : Int32} {mo : Nat → Int32} {mf : Nat → Int32} {rec16 : Int32 → Int32 → Int32 → Int32 → Int32 → Int32 → Int32 → Int32 → (Nat → Int32) → (Nat → Int32) → (Nat → Int32) → (Nat → Int32) → Int32 → (Nat → Int64) → (Nat → Int32) → (Nat → Int64) → Option (Int32 × (Nat → Int32) × (Nat → Int32) × Int32 × (Nat → Int64) × (Nat → Int32) × (Nat → Int64))} (C : cx D [(k 21, .int), (k 22, .int), (k 23, .int), (k 24, .boolean), (k 25, .boolean), (k 26, .long), (k 27, .int), (k 28, .long), (k 29, .int)] R_M b_M_span 7 (some .int) A p s m args meth c) (hrec16 : H_M_span_16 p l e s m args below meth c D A a k mh mo mf rec16) : H_M_span_51 p l e s m args below meth c D A a k mh mo mf (J_M_span_51 rec16) := by
  obtain ⟨hx, hb, hr, hml, hown, ht, hlk, hA, hK⟩ := id C
  intro x1 x2 x6 y0 mn mc ms ml mm mt mk mr my mb r h H locs ls hP hD hS hl
  unfold J_M_span_51 at h
  refine lv_istore_n (lv' := [(3, .int y0), (0, .ref (a 20)), (1, .int x1), (2, .int x2), (6, .int x6)]) hx hb d_M_span_51 rfl hl (by decide) rfl (fun ls hl => ?_)
  refine lv_iload hx hb d_M_span_52 (lv_at hl 4 rfl) ?_
  refine lv_istore (lv' := [(4, .int x6), (3, .int y0), (0, .ref (a 20)), (1, .int x1), (2, .int x2), (6, .int x6)]) hx hb d_M_span_54 hl (by decide) rfl (fun ls hl => ?_)
  refine lv_iconst (v := 0) hx hb d_M_span_56 (by decide) ?_
  refine lv_istore (lv' := [(5, .int (0 : Int32)), (4, .int x6), (3, .int y0), (0, .ref (a 20)), (1, .int x1), (2, .int x2), (6, .int x6)]) hx hb d_M_span_57 hl (by decide) rfl (fun ls hl => ?_)
  refine lv_iinc (v := x6 + 1) (lv' := [(6, .int (x6 + 1)), (5, .int (0 : Int32)), (4, .int x6), (3, .int y0), (0, .ref (a 20)), (1, .int x1), (2, .int x2)]) hx hb d_M_span_59 hl (k := 6) rfl rfl (by decide) rfl (fun ls hl => ?_)
  refine lv_goto (tgt := 16) hx hb d_M_span_62 (by decide) ?_
  exact hrec16 _ _ _ _ _ _ _ _ _ _ _ _ _ _ _ _ _ h _ _ _ hP hD hS (lv_sub hl [4, 5, 6, 3, 2, 1, 0] rfl)
set_option maxHeartbeats 4000000 in
set_option maxRecDepth 100000 in
theorem k_M_span_16 {p : Program} {l : Launch} {e : Env} {s : State} {m : MethodId} {args : Array Value} {below : List Frame} {meth : Method} {c : Code} {D : va_G} {A : Nat → Prop} {a : Nat → Nat} {k : Nat → ClassId} {mh : Int32} {mo : Nat → Int32} {mf : Nat → Int32} {rec16 : Int32 → Int32 → Int32 → Int32 → Int32 → Int32 → Int32 → Int32 → (Nat → Int32) → (Nat → Int32) → (Nat → Int32) → (Nat → Int32) → Int32 → (Nat → Int64) → (Nat → Int32) → (Nat → Int64) → Option (Int32 × (Nat → Int32) × (Nat → Int32) × Int32 × (Nat → Int64) × (Nat → Int32) × (Nat → Int64))} (C : cx D [(k 21, .int), (k 22, .int), (k 23, .int), (k 24, .boolean), (k 25, .boolean), (k 26, .long), (k 27, .int), (k 28, .long), (k 29, .int)] R_M b_M_span 7 (some .int) A p s m args meth c) (hrec16 : H_M_span_16 p l e s m args below meth c D A a k mh mo mf rec16) : H_M_span_16 p l e s m args below meth c D A a k mh mo mf (J_M_span_16 rec16) := by
  obtain ⟨hx, hb, hr, hml, hown, ht, hlk, hA, hK⟩ := id C
  intro x1 x2 x3 x4 x5 x6 mn mc ms ml mm mt mk mr my mb r h H locs ls hP hD hS hl
  unfold J_M_span_16 at h
  refine lv_iload hx hb d_M_span_16 (lv_at hl 6 rfl) ?_
  refine lv_sipush (v := 128) hx hb d_M_span_18 (by decide) ?_
  refine lv_icmp_gt (tgt := 65) hx hb d_M_span_21 (by decide) (fun c_1 => ?_) (fun c_1 => ?_)
  · have h := ite_T c_1 h
    refine lv_iload_n hx hb d_M_span_65 rfl (lv_at hl 1 rfl) ?_
    refine lv_if_eq (tgt := 83) hx hb d_M_span_66 (by decide) (fun c_2 => ?_) (fun c_2 => ?_)
    · have h := ite_T c_2 h
      exact (k_M_span_83 C) _ _ _ _ _ _ _ _ _ _ _ _ _ _ h _ _ _ hP hD hS (lv_sub hl [2, 3, 4] rfl)
    · have h := ite_F c_2 h
      refine lv_iload hx hb d_M_span_69 (lv_at hl 5 rfl) ?_
      refine lv_if_ne (tgt := 83) hx hb d_M_span_71 (by decide) (fun c_3 => ?_) (fun c_3 => ?_)
      · have h := ite_F c_3 h
        exact (k_M_span_83 C) _ _ _ _ _ _ _ _ _ _ _ _ _ _ h _ _ _ hP hD hS (lv_sub hl [2, 3, 4] rfl)
      · have h := ite_T c_3 h
        refine lv_iconst (v := 3) hx hb d_M_span_74 (by decide) ?_
        refine lv_aload_n hx hb d_M_span_75 rfl (lv_at hl 0 rfl) ?_
        obtain ⟨v_4, e_4, h⟩ := bd_some h
        refine go_Vi (r := v_4) (As := []) (rest := [.int (3 : Int32)]) (wc := (wM a k mh mn mc ms ml mm mt mo mk mr my mb mf)) (wr := []) (w1 := (wM a k mh mn mc ms ml mm mt mo mk mr my mb mf)) (w2 := (wM a k mh mn mc ms ml mm mt mo mk mr my mb mf)) (tc := [(k 21, .int), (k 22, .int), (k 23, .int), (k 24, .boolean), (k 25, .boolean), (k 26, .long), (k 27, .int), (k 28, .long), (k 29, .int)]) hx hb hml hown ht (c_M_signs l D a k H.size mh mn mc ms ml mm mt mo mk mr my mb mf v_4 e_4) g_M_81 ⟨rfl, rfl⟩ (n := 0) (by decide +kernel) ⟨(Nat.le_of_ble_eq_true rfl), (Nat.le_of_ble_eq_true rfl)⟩ hP hD hK hS hA ⟨Nat.zero_le _, Nat.zero_le _⟩ [0, 1, 2, 3, 4, 5, 6, 7, 8, 9] [] [0, 1, 2, 3, 4, 5, 6, 7, 8] [0, 1, 2, 3, 4, 5, 6, 7, 8, 9] rfl rfl rfl rfl (by decide) (by decide) (by decide) rfl (by decide) 0 rfl rfl rfl rfl rfl hl.1 (Nat.le_of_ble_eq_true rfl) d_M_span_76 (fun H locs hP hD hS => ?_)
        refine lv_imul hx hb d_M_span_79 ?_
        refine lv_goto (tgt := 84) hx hb d_M_span_80 (by decide) ?_
        exact (k_M_span_84 C) _ _ _ _ _ _ _ _ _ _ _ _ _ _ _ h _ _ _ hP hD hS (lv_sub hl [2, 3, 4] rfl)
  · have h := ite_F c_1 h
    refine lv_aload_n hx hb d_M_span_24 rfl (lv_at hl 0 rfl) ?_
    refine va_get (D := D) (ci := 3) (v := .ref (a 26)) (C := R_M) (T := F_M) (N := 13) hx hb ht iC_M hown hK hP 0 rfl rfl 9 (by decide) (ht _ ix_189) (fun _ h9 => h9) rfl d_M_span_25 ?_
    refine lv_sipush (v := 128) hx hb d_M_span_28 (by decide) ?_
    refine lv_iload hx hb d_M_span_31 (lv_at hl 6 rfl) ?_
    refine lv_iadd hx hb d_M_span_33 ?_
    obtain ⟨g_5, h⟩ := gd_some h
    refine va_lald hx hb hK hP 6 5 rfl rfl (inb_in g_5) d_M_span_34 ?_
    refine lv_lconst (v := 0) hx hb d_M_span_35 (by decide) ?_
    refine W.lcmp hx hb d_M_span_36 ?_
    refine lv_if_eq (tgt := 59) hx hb d_M_span_37 (by decide) (fun c_6 => ?_) (fun c_6 => ?_)
    · have h := ite_T c_6 h
      refine lv_iinc (v := x6 + 1) (lv' := [(6, .int (x6 + 1)), (0, .ref (a 20)), (1, .int x1), (2, .int x2), (3, .int x3), (4, .int x4), (5, .int x5)]) hx hb d_M_span_59 hl (k := 6) rfl rfl (by decide) rfl (fun ls hl => ?_)
      refine lv_goto (tgt := 16) hx hb d_M_span_62 (by decide) ?_
      exact hrec16 _ _ _ _ _ _ _ _ _ _ _ _ _ _ _ _ _ h _ _ _ hP hD hS (lv_sub hl [1, 2, 3, 4, 5, 6, 0] rfl)
    · have h := ite_F c_6 h
      refine lv_iload hx hb d_M_span_40 (lv_at hl 5 rfl) ?_
      refine lv_if_eq (tgt := 50) hx hb d_M_span_42 (by decide) (fun c_7 => ?_) (fun c_7 => ?_)
      · have h := ite_T c_7 h
        refine lv_iload_n hx hb d_M_span_50 rfl (lv_at hl 3 rfl) ?_
        exact (k_M_span_51 C hrec16) _ _ _ _ _ _ _ _ _ _ _ _ _ _ _ h _ _ _ hP hD hS (lv_sub hl [0, 1, 2, 6] rfl)
      · have h := ite_F c_7 h
        refine lv_iload hx hb d_M_span_45 (lv_at hl 6 rfl) ?_
        refine lv_goto (tgt := 51) hx hb d_M_span_47 (by decide) ?_
        exact (k_M_span_51 C hrec16) _ _ _ _ _ _ _ _ _ _ _ _ _ _ _ h _ _ _ hP hD hS (lv_sub hl [0, 1, 2, 6] rfl)
theorem k_M_span_16_L {p : Program} {l : Launch} {e : Env} {s : State} {m : MethodId} {args : Array Value} {below : List Frame} {meth : Method} {c : Code} {D : va_G} {A : Nat → Prop} {a : Nat → Nat} {k : Nat → ClassId} {mh : Int32} {mo : Nat → Int32} {mf : Nat → Int32} (C : cx D [(k 21, .int), (k 22, .int), (k 23, .int), (k 24, .boolean), (k 25, .boolean), (k 26, .long), (k 27, .int), (k 28, .long), (k 29, .int)] R_M b_M_span 7 (some .int) A p s m args meth c) : ∀ n : Nat, H_M_span_16 p l e s m args below meth c D A a k mh mo mf (L_M_span_16 n)
  | 0 => fun _ _ _ _ _ _ _ _ _ _ _ _ _ _ _ _ _ h => nomatch h
  | n + 1 => k_M_span_16 C (k_M_span_16_L C n)
set_option maxHeartbeats 4000000 in
set_option maxRecDepth 100000 in
theorem k_M_span_0 {p : Program} {l : Launch} {e : Env} {s : State} {m : MethodId} {args : Array Value} {below : List Frame} {meth : Method} {c : Code} {D : va_G} {A : Nat → Prop} {a : Nat → Nat} {k : Nat → ClassId} {mh : Int32} {mo : Nat → Int32} {mf : Nat → Int32} (C : cx D [(k 21, .int), (k 22, .int), (k 23, .int), (k 24, .boolean), (k 25, .boolean), (k 26, .long), (k 27, .int), (k 28, .long), (k 29, .int)] R_M b_M_span 7 (some .int) A p s m args meth c) : H_M_span_0 p l e s m args below meth c D A a k mh mo mf (J_M_span_0) := by
  obtain ⟨hx, hb, hr, hml, hown, ht, hlk, hA, hK⟩ := id C
  intro x1 x2 mn mc ms ml mm mt mk mr my mb r h H locs ls hP hD hS hl
  unfold J_M_span_0 at h
  refine lv_aload_n hx hb d_M_span_0 rfl (lv_at hl 0 rfl) ?_
  obtain ⟨v_1, e_1, h⟩ := bd_some h
  refine go_Vv (As := []) (rest := []) (wc := (wM a k mh mn mc ms ml mm mt mo mk mr my mb mf)) (wr := []) (w1 := (wM a k mh mn mc ms ml v_1.1 v_1.2.1 mo v_1.2.2.1 v_1.2.2.2.1 v_1.2.2.2.2.1 v_1.2.2.2.2.2 mf)) (w2 := (wM a k mh mn mc ms ml v_1.1 v_1.2.1 mo v_1.2.2.1 v_1.2.2.2.1 v_1.2.2.2.2.1 v_1.2.2.2.2.2 mf)) (tc := [(k 21, .int), (k 22, .int), (k 23, .int), (k 24, .boolean), (k 25, .boolean), (k 26, .long), (k 27, .int), (k 28, .long), (k 29, .int)]) hx hb hml hown ht (c_M_know l D a k H.size mh mn mc ms ml mm mt mo mk mr my mb mf v_1 e_1) g_M_78 ⟨rfl, rfl⟩ (n := 0) (by decide +kernel) ⟨(Nat.le_of_ble_eq_true rfl), (Nat.le_of_ble_eq_true rfl)⟩ hP hD hK hS hA ⟨Nat.zero_le _, Nat.zero_le _⟩ [0, 1, 2, 3, 4, 5, 6, 7, 8, 9] [] [0, 1, 2, 3, 4, 5, 6, 7, 8] [0, 1, 2, 3, 4, 5, 6, 7, 8, 9] rfl rfl rfl rfl (by decide) (by decide) (by decide) rfl (by decide) 0 rfl rfl rfl rfl rfl hl.1 (Nat.le_of_ble_eq_true rfl) d_M_span_1 (fun H locs hP hD hS => ?_)
  refine lv_iconst (v := 0) hx hb d_M_span_4 (by decide) ?_
  refine lv_istore_n (lv' := [(3, .int (0 : Int32)), (0, .ref (a 20)), (1, .int x1), (2, .int x2)]) hx hb d_M_span_5 rfl hl (by decide) rfl (fun ls hl => ?_)
  refine lv_iconst (v := 0) hx hb d_M_span_6 (by decide) ?_
  refine lv_istore (lv' := [(4, .int (0 : Int32)), (3, .int (0 : Int32)), (0, .ref (a 20)), (1, .int x1), (2, .int x2)]) hx hb d_M_span_7 hl (by decide) rfl (fun ls hl => ?_)
  refine lv_iconst (v := 1) hx hb d_M_span_9 (by decide) ?_
  refine lv_istore (lv' := [(5, .int (1 : Int32)), (4, .int (0 : Int32)), (3, .int (0 : Int32)), (0, .ref (a 20)), (1, .int x1), (2, .int x2)]) hx hb d_M_span_10 hl (by decide) rfl (fun ls hl => ?_)
  refine lv_bipush (v := (-128)) hx hb d_M_span_12 (by decide) ?_
  refine lv_istore (lv' := [(6, .int (-128 : Int32)), (5, .int (1 : Int32)), (4, .int (0 : Int32)), (3, .int (0 : Int32)), (0, .ref (a 20)), (1, .int x1), (2, .int x2)]) hx hb d_M_span_14 hl (by decide) rfl (fun ls hl => ?_)
  exact (k_M_span_16_L C fu) _ _ _ _ _ _ _ _ _ _ _ _ _ _ _ _ _ h _ _ _ hP hD hS (lv_sub hl [4, 5, 6, 3, 2, 1, 0] rfl)
set_option maxRecDepth 20000 in
theorem c_M_span (l : Launch) (D : va_G) (a : Nat → Nat) (k : Nat → ClassId) (sz : Nat) (x1 : Int32) (x2 : Int32) (mh : Int32) (mn : Int32) (mc : Int32) (ms : Nat → Int32) (ml : Nat → Int32) (mm : Nat → Int32) (mt : Nat → Int32) (mo : Nat → Int32) (mk : Int32) (mr : Nat → Int64) (my : Nat → Int32) (mb : Nat → Int64) (mf : Nat → Int32) (r : Int32 × (Nat → Int32) × (Nat → Int32) × Int32 × (Nat → Int64) × (Nat → Int32) × (Nat → Int64)) (h : F_M_span x1 x2 mn mc ms ml mm mt mk mr my mb = some r) : Met l y_M_span (Cond.code y_M_span b_M_span 7 (some .int) :: lw_g) (rm_M_span) (va_Pc [.ref (a 20), .int x1, .int x2] (pcW D [(k 21, .int), (k 22, .int), (k 23, .int), (k 24, .boolean), (k 25, .boolean), (k 26, .long), (k 27, .int), (k 28, .long), (k 29, .int)] (wM a k mh mn mc ms ml mm mt mo mk mr my mb mf) sz)) (qc_M_span D (va_A (wM a k mh mn mc ms ml mm mt mo mk mr my mb mf) sz) a k mh mn mc ms ml mo mf r) 0 0 (va_A (wM a k mh mn mc ms ml mm mt mo mk mr my mb mf) sz) := by
  refine Met.ofW (cc := b_M_span) (maxL := 7) (ret := (some .int)) (by decide) rfl ?_
  intro p e s m args below meth c s₁ B hml hv
  obtain ⟨rfl, hsz, hP, hK, hD0⟩ := hv
  have hts := atoms_spec (ws := Cond.code y_M_span b_M_span 7 (some .int) :: lw_g) B.pre
  subst hsz
  have hD := hD0.self (sz := s.heap.size)
  have hl := lv_entry ([.ref (a 20), .int x1, .int x2]) (n := 7) (Nat.le_of_ble_eq_true rfl)
  rw [lg_entry_eq]
  generalize (lg_sl ([.ref (a 20), .int x1, .int x2]) ++ List.replicate (7 - (lg_sl ([.ref (a 20), .int x1, .int x2])).length) Slot.unset).toArray = ls at hl ⊢
  exact k_M_span_0 ⟨B.exec, B.bytes, B.returns, hml, findClass_of_methodNamed B.named, fun w hw => hts w (List.mem_cons_of_mem _ hw), B.notSynchronized, fun q h => Or.inr h, hK⟩ _ _ _ _ _ _ _ _ _ _ _ _ _ h _ _ _ hP hD va_S.rf hl
