def rm_M_stands : Room := { frames := 0, cells := 0, slots := 0, locals := 0 }
def qc_M_stands (D : va_G) (A : Nat → Prop) (a : Nat → Nat) (k : Nat → ClassId) (mh : Int32) (mn : Int32) (mc : Int32) (ms : Nat → Int32) (ml : Nat → Int32) (mm : Nat → Int32) (mt : Nat → Int32) (mo : Nat → Int32) (mk : Int32) (mr : Nat → Int64) (my : Nat → Int32) (mb : Nat → Int64) (mf : Nat → Int32) (r : Int32) : Array Value → State → Outcome → State → Prop := va_Qi (fun (r1 : Int32) (_ : Unit) => r1 = r) (poW D [(k 21, .int), (k 22, .int), (k 23, .int), (k 24, .boolean), (k 25, .boolean), (k 26, .long), (k 27, .int), (k 28, .long), (k 29, .int)] (wM a k mh mn mc ms ml mm mt mo mk mr my mb mf) A) A
def J_M_stands_4 (rec4 : Int32 → Int32 → Int32 → Int32 → (Nat → Int32) → (Nat → Int32) → Option (Int32)) (x1 : Int32) (x2 : Int32) (x3 : Int32) (mn : Int32) (ml : Nat → Int32) (mo : Nat → Int32) : Option (Int32) :=
  (if ((4 : Int32) * mn) ≤ x3 then (if isb x2 then some (x2) else none) else (if x2 = 0 then (if inb (x3 / (4 : Int32)) 10 then (if (mo (x3 / (4 : Int32)).toNatClampNeg) = 0 then rec4 x1 (0 : Int32) (x3 + 1) mn ml mo else (if inb x3 40 then (if (ml x3.toNatClampNeg) = x1 then rec4 x1 (1 : Int32) (x3 + 1) mn ml mo else rec4 x1 (0 : Int32) (x3 + 1) mn ml mo) else none)) else none) else rec4 x1 (1 : Int32) (x3 + 1) mn ml mo))
def L_M_stands_4 : Nat → Int32 → Int32 → Int32 → Int32 → (Nat → Int32) → (Nat → Int32) → Option (Int32)
  | 0 => fun _ _ _ _ _ _ => none
  | n + 1 => J_M_stands_4 (L_M_stands_4 n)
def J_M_stands_0 (x1 : Int32) (mn : Int32) (ml : Nat → Int32) (mo : Nat → Int32) : Option (Int32) :=
  L_M_stands_4 fu x1 (0 : Int32) (0 : Int32) mn ml mo
def F_M_stands (x1 : Int32) (mn : Int32) (ml : Nat → Int32) (mo : Nat → Int32) : Option (Int32) := J_M_stands_0 x1 mn ml mo
def H_M_stands_4 (p : Program) (l : Launch) (e : Env) (s : State) (m : MethodId) (args : Array Value) (below : List Frame) (meth : Method) (c : Code) (D : va_G) (A : Nat → Prop) (a : Nat → Nat) (k : Nat → ClassId) (mh : Int32) (mc : Int32) (ms : Nat → Int32) (mm : Nat → Int32) (mt : Nat → Int32) (mk : Int32) (mr : Nat → Int64) (my : Nat → Int32) (mb : Nat → Int64) (mf : Nat → Int32) (f : Int32 → Int32 → Int32 → Int32 → (Nat → Int32) → (Nat → Int32) → Option (Int32)) : Prop := ∀ (x1 : Int32) (x2 : Int32) (x3 : Int32) (mn : Int32) (ml : Nat → Int32) (mo : Nat → Int32) (r : Int32), f x1 x2 x3 mn ml mo = some r → ∀ (H : Heap) (locs : List Loc) (ls : Array Slot), va_P D classes (wM a k mh mn mc ms ml mm mt mo mk mr my mb mf) H → va_D A (wM a k mh mn mc ms ml mm mt mo mk mr my mb mf) → va_S A s.heap H locs → lv_has ls 4 [(0, .ref (a 20)), (1, .int x1), (2, .int x2), (3, .int x3)] → W p l e (rm_M_stands) s m args below meth c H locs 0 0 (MQ below (qc_M_stands D A a k mh mn mc ms ml mm mt mo mk mr my mb mf r) args s 0 0 A) (F0 m 4 ls [])
def H_M_stands_0 (p : Program) (l : Launch) (e : Env) (s : State) (m : MethodId) (args : Array Value) (below : List Frame) (meth : Method) (c : Code) (D : va_G) (A : Nat → Prop) (a : Nat → Nat) (k : Nat → ClassId) (mh : Int32) (mc : Int32) (ms : Nat → Int32) (mm : Nat → Int32) (mt : Nat → Int32) (mk : Int32) (mr : Nat → Int64) (my : Nat → Int32) (mb : Nat → Int64) (mf : Nat → Int32) (f : Int32 → Int32 → (Nat → Int32) → (Nat → Int32) → Option (Int32)) : Prop := ∀ (x1 : Int32) (mn : Int32) (ml : Nat → Int32) (mo : Nat → Int32) (r : Int32), f x1 mn ml mo = some r → ∀ (H : Heap) (locs : List Loc) (ls : Array Slot), va_P D classes (wM a k mh mn mc ms ml mm mt mo mk mr my mb mf) H → va_D A (wM a k mh mn mc ms ml mm mt mo mk mr my mb mf) → va_S A s.heap H locs → lv_has ls 4 [(0, .ref (a 20)), (1, .int x1)] → W p l e (rm_M_stands) s m args below meth c H locs 0 0 (MQ below (qc_M_stands D A a k mh mn mc ms ml mm mt mo mk mr my mb mf r) args s 0 0 A) (F0 m 0 ls [])
set_option maxHeartbeats 4000000 in
set_option maxRecDepth 100000 in
theorem k_M_stands_4 {p : Program} {l : Launch} {e : Env} {s : State} {m : MethodId} {args : Array Value} {below : List Frame} {meth : Method} {c : Code} {D : va_G} {A : Nat → Prop} {a : Nat → Nat} {k : Nat → ClassId} {mh : Int32} {mc : Int32} {ms : Nat → Int32} {mm : Nat → Int32} {mt : Nat → Int32} {mk : Int32} {mr : Nat → Int64} {my : Nat → Int32} {mb : Nat → Int64} {mf : Nat → Int32} {rec4 : Int32 → Int32 → Int32 → Int32 → (Nat → Int32) → (Nat → Int32) → Option (Int32)} (C : cx D [(k 21, .int), (k 22, .int), (k 23, .int), (k 24, .boolean), (k 25, .boolean), (k 26, .long), (k 27, .int), (k 28, .long), (k 29, .int)] R_M b_M_stands 4 (some .boolean) A p s m args meth c) (hrec4 : H_M_stands_4 p l e s m args below meth c D A a k mh mc ms mm mt mk mr my mb mf rec4) : H_M_stands_4 p l e s m args below meth c D A a k mh mc ms mm mt mk mr my mb mf (J_M_stands_4 rec4) := by
  obtain ⟨hx, hb, hr, hml, hown, ht, hlk, hA, hK⟩ := id C
  intro x1 x2 x3 mn ml mo r h H locs ls hP hD hS hl
  unfold J_M_stands_4 at h
  refine lv_iload_n hx hb d_M_stands_4 rfl (lv_at hl 3 rfl) ?_
  refine lv_iconst (v := 4) hx hb d_M_stands_5 (by decide) ?_
  refine lv_aload_n hx hb d_M_stands_6 rfl (lv_at hl 0 rfl) ?_
  refine va_get (D := D) (ci := 3) (v := .int mn) (C := R_M) (T := F_M) (N := 13) hx hb ht iC_M hown hK hP 0 rfl rfl 1 (by decide) (ht _ ix_163) (fun _ h9 => h9) rfl d_M_stands_7 ?_
  refine lv_imul hx hb d_M_stands_10 ?_
  refine lv_icmp_ge (tgt := 51) hx hb d_M_stands_11 (by decide) (fun c_1 => ?_) (fun c_1 => ?_)
  · have h := ite_T c_1 h
    refine lv_iload_n hx hb d_M_stands_51 rfl (lv_at hl 2 rfl) ?_
    obtain ⟨g_z, h⟩ := gd_some h
    cases h
    exact W.zret hx hb hr (isb_nar g_z) (fun t ht hW => ⟨⟨_, (), rfl, rfl, by rw [ht]; exact hP, va_K.moved hW.alike hK, hD⟩, hS.F ht⟩) hS.2.2 d_M_stands_52 hlk
  · have h := ite_F c_1 h
    refine lv_iload_n hx hb d_M_stands_14 rfl (lv_at hl 2 rfl) ?_
    refine lv_if_ne (tgt := 39) hx hb d_M_stands_15 (by decide) (fun c_2 => ?_) (fun c_2 => ?_)
    · have h := ite_F c_2 h
      refine lv_iconst (v := 1) hx hb d_M_stands_39 (by decide) ?_
      refine lv_goto (tgt := 44) hx hb d_M_stands_40 (by decide) ?_
      refine lv_istore_n (lv' := [(2, .int (1 : Int32)), (0, .ref (a 20)), (1, .int x1), (3, .int x3)]) hx hb d_M_stands_44 rfl hl (by decide) rfl (fun ls hl => ?_)
      refine lv_iinc (v := x3 + 1) (lv' := [(3, .int (x3 + 1)), (2, .int (1 : Int32)), (0, .ref (a 20)), (1, .int x1)]) hx hb d_M_stands_45 hl (k := 3) rfl rfl (by decide) rfl (fun ls hl => ?_)
      refine lv_goto (tgt := 4) hx hb d_M_stands_48 (by decide) ?_
      exact hrec4 _ _ _ _ _ _ _ h _ _ _ hP hD hS (lv_sub hl [2, 3, 1, 0] rfl)
    · have h := ite_T c_2 h
      refine lv_aload_n hx hb d_M_stands_18 rfl (lv_at hl 0 rfl) ?_
      refine va_get (D := D) (ci := 3) (v := .ref (a 25)) (C := R_M) (T := F_M) (N := 13) hx hb ht iC_M hown hK hP 0 rfl rfl 7 (by decide) (ht _ ix_212) (fun _ h9 => h9) rfl d_M_stands_19 ?_
      refine lv_iload_n hx hb d_M_stands_22 rfl (lv_at hl 3 rfl) ?_
      refine lv_iconst (v := 4) hx hb d_M_stands_23 (by decide) ?_
      refine lv_idiv hx hb d_M_stands_24 (by decide) ?_
      obtain ⟨g_3, h⟩ := gd_some h
      refine va_zald hx hb hK hP 5 4 rfl rfl (inb_in g_3) d_M_stands_25 ?_
      refine lv_if_eq (tgt := 43) hx hb d_M_stands_26 (by decide) (fun c_4 => ?_) (fun c_4 => ?_)
      · have h := ite_T c_4 h
        refine lv_iconst (v := 0) hx hb d_M_stands_43 (by decide) ?_
        refine lv_istore_n (lv' := [(2, .int (0 : Int32)), (0, .ref (a 20)), (1, .int x1), (3, .int x3)]) hx hb d_M_stands_44 rfl hl (by decide) rfl (fun ls hl => ?_)
        refine lv_iinc (v := x3 + 1) (lv' := [(3, .int (x3 + 1)), (2, .int (0 : Int32)), (0, .ref (a 20)), (1, .int x1)]) hx hb d_M_stands_45 hl (k := 3) rfl rfl (by decide) rfl (fun ls hl => ?_)
        refine lv_goto (tgt := 4) hx hb d_M_stands_48 (by decide) ?_
        exact hrec4 _ _ _ _ _ _ _ h _ _ _ hP hD hS (lv_sub hl [2, 3, 1, 0] rfl)
      · have h := ite_F c_4 h
        refine lv_aload_n hx hb d_M_stands_29 rfl (lv_at hl 0 rfl) ?_
        refine va_get (D := D) (ci := 3) (v := .ref (a 22)) (C := R_M) (T := F_M) (N := 13) hx hb ht iC_M hown hK hP 0 rfl rfl 4 (by decide) (ht _ ix_164) (fun _ h9 => h9) rfl d_M_stands_30 ?_
        refine lv_iload_n hx hb d_M_stands_33 rfl (lv_at hl 3 rfl) ?_
        obtain ⟨g_5, h⟩ := gd_some h
        refine va_iald hx hb hK hP 2 1 rfl rfl (inb_in g_5) d_M_stands_34 ?_
        refine lv_iload_n hx hb d_M_stands_35 rfl (lv_at hl 1 rfl) ?_
        refine lv_icmp_ne (tgt := 43) hx hb d_M_stands_36 (by decide) (fun c_6 => ?_) (fun c_6 => ?_)
        · have h := ite_F c_6 h
          refine lv_iconst (v := 0) hx hb d_M_stands_43 (by decide) ?_
          refine lv_istore_n (lv' := [(2, .int (0 : Int32)), (0, .ref (a 20)), (1, .int x1), (3, .int x3)]) hx hb d_M_stands_44 rfl hl (by decide) rfl (fun ls hl => ?_)
          refine lv_iinc (v := x3 + 1) (lv' := [(3, .int (x3 + 1)), (2, .int (0 : Int32)), (0, .ref (a 20)), (1, .int x1)]) hx hb d_M_stands_45 hl (k := 3) rfl rfl (by decide) rfl (fun ls hl => ?_)
          refine lv_goto (tgt := 4) hx hb d_M_stands_48 (by decide) ?_
          exact hrec4 _ _ _ _ _ _ _ h _ _ _ hP hD hS (lv_sub hl [2, 3, 1, 0] rfl)
        · have h := ite_T c_6 h
          refine lv_iconst (v := 1) hx hb d_M_stands_39 (by decide) ?_
          refine lv_goto (tgt := 44) hx hb d_M_stands_40 (by decide) ?_
          refine lv_istore_n (lv' := [(2, .int (1 : Int32)), (0, .ref (a 20)), (1, .int x1), (3, .int x3)]) hx hb d_M_stands_44 rfl hl (by decide) rfl (fun ls hl => ?_)
          refine lv_iinc (v := x3 + 1) (lv' := [(3, .int (x3 + 1)), (2, .int (1 : Int32)), (0, .ref (a 20)), (1, .int x1)]) hx hb d_M_stands_45 hl (k := 3) rfl rfl (by decide) rfl (fun ls hl => ?_)
          refine lv_goto (tgt := 4) hx hb d_M_stands_48 (by decide) ?_
          exact hrec4 _ _ _ _ _ _ _ h _ _ _ hP hD hS (lv_sub hl [2, 3, 1, 0] rfl)
theorem k_M_stands_4_L {p : Program} {l : Launch} {e : Env} {s : State} {m : MethodId} {args : Array Value} {below : List Frame} {meth : Method} {c : Code} {D : va_G} {A : Nat → Prop} {a : Nat → Nat} {k : Nat → ClassId} {mh : Int32} {mc : Int32} {ms : Nat → Int32} {mm : Nat → Int32} {mt : Nat → Int32} {mk : Int32} {mr : Nat → Int64} {my : Nat → Int32} {mb : Nat → Int64} {mf : Nat → Int32} (C : cx D [(k 21, .int), (k 22, .int), (k 23, .int), (k 24, .boolean), (k 25, .boolean), (k 26, .long), (k 27, .int), (k 28, .long), (k 29, .int)] R_M b_M_stands 4 (some .boolean) A p s m args meth c) : ∀ n : Nat, H_M_stands_4 p l e s m args below meth c D A a k mh mc ms mm mt mk mr my mb mf (L_M_stands_4 n)
  | 0 => fun _ _ _ _ _ _ _ h => nomatch h
  | n + 1 => k_M_stands_4 C (k_M_stands_4_L C n)
set_option maxHeartbeats 4000000 in
set_option maxRecDepth 100000 in
theorem k_M_stands_0 {p : Program} {l : Launch} {e : Env} {s : State} {m : MethodId} {args : Array Value} {below : List Frame} {meth : Method} {c : Code} {D : va_G} {A : Nat → Prop} {a : Nat → Nat} {k : Nat → ClassId} {mh : Int32} {mc : Int32} {ms : Nat → Int32} {mm : Nat → Int32} {mt : Nat → Int32} {mk : Int32} {mr : Nat → Int64} {my : Nat → Int32} {mb : Nat → Int64} {mf : Nat → Int32} (C : cx D [(k 21, .int), (k 22, .int), (k 23, .int), (k 24, .boolean), (k 25, .boolean), (k 26, .long), (k 27, .int), (k 28, .long), (k 29, .int)] R_M b_M_stands 4 (some .boolean) A p s m args meth c) : H_M_stands_0 p l e s m args below meth c D A a k mh mc ms mm mt mk mr my mb mf (J_M_stands_0) := by
  obtain ⟨hx, hb, hr, hml, hown, ht, hlk, hA, hK⟩ := id C
  intro x1 mn ml mo r h H locs ls hP hD hS hl
  unfold J_M_stands_0 at h
  refine lv_iconst (v := 0) hx hb d_M_stands_0 (by decide) ?_
  refine lv_istore_n (lv' := [(2, .int (0 : Int32)), (0, .ref (a 20)), (1, .int x1)]) hx hb d_M_stands_1 rfl hl (by decide) rfl (fun ls hl => ?_)
  refine lv_iconst (v := 0) hx hb d_M_stands_2 (by decide) ?_
  refine lv_istore_n (lv' := [(3, .int (0 : Int32)), (2, .int (0 : Int32)), (0, .ref (a 20)), (1, .int x1)]) hx hb d_M_stands_3 rfl hl (by decide) rfl (fun ls hl => ?_)
  exact (k_M_stands_4_L C fu) _ _ _ _ _ _ _ h _ _ _ hP hD hS (lv_sub hl [2, 3, 1, 0] rfl)
set_option maxRecDepth 20000 in
theorem c_M_stands (l : Launch) (D : va_G) (a : Nat → Nat) (k : Nat → ClassId) (sz : Nat) (x1 : Int32) (mh : Int32) (mn : Int32) (mc : Int32) (ms : Nat → Int32) (ml : Nat → Int32) (mm : Nat → Int32) (mt : Nat → Int32) (mo : Nat → Int32) (mk : Int32) (mr : Nat → Int64) (my : Nat → Int32) (mb : Nat → Int64) (mf : Nat → Int32) (r : Int32) (h : F_M_stands x1 mn ml mo = some r) : Met l y_M_stands (Cond.code y_M_stands b_M_stands 4 (some .boolean) :: lw_g) (rm_M_stands) (va_Pc [.ref (a 20), .int x1] (pcW D [(k 21, .int), (k 22, .int), (k 23, .int), (k 24, .boolean), (k 25, .boolean), (k 26, .long), (k 27, .int), (k 28, .long), (k 29, .int)] (wM a k mh mn mc ms ml mm mt mo mk mr my mb mf) sz)) (qc_M_stands D (va_A (wM a k mh mn mc ms ml mm mt mo mk mr my mb mf) sz) a k mh mn mc ms ml mm mt mo mk mr my mb mf r) 0 0 (va_A (wM a k mh mn mc ms ml mm mt mo mk mr my mb mf) sz) := by
  refine Met.ofW (cc := b_M_stands) (maxL := 4) (ret := (some .boolean)) (by decide) rfl ?_
  intro p e s m args below meth c s₁ B hml hv
  obtain ⟨rfl, hsz, hP, hK, hD0⟩ := hv
  have hts := atoms_spec (ws := Cond.code y_M_stands b_M_stands 4 (some .boolean) :: lw_g) B.pre
  subst hsz
  have hD := hD0.self (sz := s.heap.size)
  have hl := lv_entry ([.ref (a 20), .int x1]) (n := 4) (Nat.le_of_ble_eq_true rfl)
  rw [lg_entry_eq]
  generalize (lg_sl ([.ref (a 20), .int x1]) ++ List.replicate (4 - (lg_sl ([.ref (a 20), .int x1])).length) Slot.unset).toArray = ls at hl ⊢
  exact k_M_stands_0 ⟨B.exec, B.bytes, B.returns, hml, findClass_of_methodNamed B.named, fun w hw => hts w (List.mem_cons_of_mem _ hw), B.notSynchronized, fun q h => Or.inr h, hK⟩ _ _ _ _ _ h _ _ _ hP hD va_S.rf hl

def rm_M_touching : Room := { frames := 1, cells := 0, slots := 0, locals := 23 }
def qc_M_touching (D : va_G) (A : Nat → Prop) (a : Nat → Nat) (k : Nat → ClassId) (mh : Int32) (mn : Int32) (mc : Int32) (ms : Nat → Int32) (ml : Nat → Int32) (mm : Nat → Int32) (mt : Nat → Int32) (mo : Nat → Int32) (mk : Int32) (mr : Nat → Int64) (my : Nat → Int32) (mb : Nat → Int64) (mf : Nat → Int32) (r : Int32) : Array Value → State → Outcome → State → Prop := va_Qi (fun (r1 : Int32) (_ : Unit) => r1 = r) (poW D [(k 21, .int), (k 22, .int), (k 23, .int), (k 24, .boolean), (k 25, .boolean), (k 26, .long), (k 27, .int), (k 28, .long), (k 29, .int)] (wM a k mh mn mc ms ml mm mt mo mk mr my mb mf) A) A
def J_M_touching_4 (rec4 : Int32 → Int32 → Int32 → Int32 → (Nat → Int32) → (Nat → Int32) → Option (Int32)) (x1 : Int32) (x2 : Int32) (x3 : Int32) (mn : Int32) (ml : Nat → Int32) (mo : Nat → Int32) : Option (Int32) :=
  (if (4 : Int32) ≤ x3 then some (x2) else (if inb (((4 : Int32) * x1) + x3) 40 then (Option.bind (F_M_stands (ml (((4 : Int32) * x1) + x3).toNatClampNeg) mn ml mo) (fun v_3 => (if v_3 = 0 then rec4 x1 (x2 + (0 : Int32)) (x3 + 1) mn ml mo else rec4 x1 (x2 + (1 : Int32)) (x3 + 1) mn ml mo))) else none))
def L_M_touching_4 : Nat → Int32 → Int32 → Int32 → Int32 → (Nat → Int32) → (Nat → Int32) → Option (Int32)
  | 0 => fun _ _ _ _ _ _ => none
  | n + 1 => J_M_touching_4 (L_M_touching_4 n)
def J_M_touching_0 (x1 : Int32) (mn : Int32) (ml : Nat → Int32) (mo : Nat → Int32) : Option (Int32) :=
  L_M_touching_4 fu x1 (0 : Int32) (0 : Int32) mn ml mo
def F_M_touching (x1 : Int32) (mn : Int32) (ml : Nat → Int32) (mo : Nat → Int32) : Option (Int32) := J_M_touching_0 x1 mn ml mo
def H_M_touching_4 (p : Program) (l : Launch) (e : Env) (s : State) (m : MethodId) (args : Array Value) (below : List Frame) (meth : Method) (c : Code) (D : va_G) (A : Nat → Prop) (a : Nat → Nat) (k : Nat → ClassId) (mh : Int32) (mc : Int32) (ms : Nat → Int32) (mm : Nat → Int32) (mt : Nat → Int32) (mk : Int32) (mr : Nat → Int64) (my : Nat → Int32) (mb : Nat → Int64) (mf : Nat → Int32) (f : Int32 → Int32 → Int32 → Int32 → (Nat → Int32) → (Nat → Int32) → Option (Int32)) : Prop := ∀ (x1 : Int32) (x2 : Int32) (x3 : Int32) (mn : Int32) (ml : Nat → Int32) (mo : Nat → Int32) (r : Int32), f x1 x2 x3 mn ml mo = some r → ∀ (H : Heap) (locs : List Loc) (ls : Array Slot), va_P D classes (wM a k mh mn mc ms ml mm mt mo mk mr my mb mf) H → va_D A (wM a k mh mn mc ms ml mm mt mo mk mr my mb mf) → va_S A s.heap H locs → lv_has ls 4 [(0, .ref (a 20)), (1, .int x1), (2, .int x2), (3, .int x3)] → W p l e (rm_M_touching) s m args below meth c H locs 0 0 (MQ below (qc_M_touching D A a k mh mn mc ms ml mm mt mo mk mr my mb mf r) args s 0 0 A) (F0 m 4 ls [])
def H_M_touching_0 (p : Program) (l : Launch) (e : Env) (s : State) (m : MethodId) (args : Array Value) (below : List Frame) (meth : Method) (c : Code) (D : va_G) (A : Nat → Prop) (a : Nat → Nat) (k : Nat → ClassId) (mh : Int32) (mc : Int32) (ms : Nat → Int32) (mm : Nat → Int32) (mt : Nat → Int32) (mk : Int32) (mr : Nat → Int64) (my : Nat → Int32) (mb : Nat → Int64) (mf : Nat → Int32) (f : Int32 → Int32 → (Nat → Int32) → (Nat → Int32) → Option (Int32)) : Prop := ∀ (x1 : Int32) (mn : Int32) (ml : Nat → Int32) (mo : Nat → Int32) (r : Int32), f x1 mn ml mo = some r → ∀ (H : Heap) (locs : List Loc) (ls : Array Slot), va_P D classes (wM a k mh mn mc ms ml mm mt mo mk mr my mb mf) H → va_D A (wM a k mh mn mc ms ml mm mt mo mk mr my mb mf) → va_S A s.heap H locs → lv_has ls 4 [(0, .ref (a 20)), (1, .int x1)] → W p l e (rm_M_touching) s m args below meth c H locs 0 0 (MQ below (qc_M_touching D A a k mh mn mc ms ml mm mt mo mk mr my mb mf r) args s 0 0 A) (F0 m 0 ls [])
set_option maxHeartbeats 4000000 in
set_option maxRecDepth 100000 in
theorem k_M_touching_4 {p : Program} {l : Launch} {e : Env} {s : State} {m : MethodId} {args : Array Value} {below : List Frame} {meth : Method} {c : Code} {D : va_G} {A : Nat → Prop} {a : Nat → Nat} {k : Nat → ClassId} {mh : Int32} {mc : Int32} {ms : Nat → Int32} {mm : Nat → Int32} {mt : Nat → Int32} {mk : Int32} {mr : Nat → Int64} {my : Nat → Int32} {mb : Nat → Int64} {mf : Nat → Int32} {rec4 : Int32 → Int32 → Int32 → Int32 → (Nat → Int32) → (Nat → Int32) → Option (Int32)} (C : cx D [(k 21, .int), (k 22, .int), (k 23, .int), (k 24, .boolean), (k 25, .boolean), (k 26, .long), (k 27, .int), (k 28, .long), (k 29, .int)] R_M b_M_touching 4 (some .int) A p s m args meth c) (hrec4 : H_M_touching_4 p l e s m args below meth c D A a k mh mc ms mm mt mk mr my mb mf rec4) : H_M_touching_4 p l e s m args below meth c D A a k mh mc ms mm mt mk mr my mb mf (J_M_touching_4 rec4) := by
  obtain ⟨hx, hb, hr, hml, hown, ht, hlk, hA, hK⟩ := id C
  intro x1 x2 x3 mn ml mo r h H locs ls hP hD hS hl
  unfold J_M_touching_4 at h
  refine lv_iload_n hx hb d_M_touching_4 rfl (lv_at hl 3 rfl) ?_
  refine lv_iconst (v := 4) hx hb d_M_touching_5 (by decide) ?_
  refine lv_icmp_ge (tgt := 40) hx hb d_M_touching_6 (by decide) (fun c_1 => ?_) (fun c_1 => ?_)
  · have h := ite_T c_1 h
    refine lv_iload_n hx hb d_M_touching_40 rfl (lv_at hl 2 rfl) ?_
    cases h
    exact W.iret hx hb hr (fun t ht hW => ⟨⟨_, (), rfl, rfl, by rw [ht]; exact hP, va_K.moved hW.alike hK, hD⟩, hS.F ht⟩) hS.2.2 d_M_touching_41 hlk
  · have h := ite_F c_1 h
    refine lv_iload_n hx hb d_M_touching_9 rfl (lv_at hl 2 rfl) ?_
    refine lv_aload_n hx hb d_M_touching_10 rfl (lv_at hl 0 rfl) ?_
    refine lv_aload_n hx hb d_M_touching_11 rfl (lv_at hl 0 rfl) ?_
    refine va_get (D := D) (ci := 3) (v := .ref (a 22)) (C := R_M) (T := F_M) (N := 13) hx hb ht iC_M hown hK hP 0 rfl rfl 4 (by decide) (ht _ ix_164) (fun _ h9 => h9) rfl d_M_touching_12 ?_
    refine lv_iconst (v := 4) hx hb d_M_touching_15 (by decide) ?_
    refine lv_iload_n hx hb d_M_touching_16 rfl (lv_at hl 1 rfl) ?_
    refine lv_imul hx hb d_M_touching_17 ?_
    refine lv_iload_n hx hb d_M_touching_18 rfl (lv_at hl 3 rfl) ?_
    refine lv_iadd hx hb d_M_touching_19 ?_
    obtain ⟨g_2, h⟩ := gd_some h
    refine va_iald hx hb hK hP 2 1 rfl rfl (inb_in g_2) d_M_touching_20 ?_
    obtain ⟨v_3, e_3, h⟩ := bd_some h
    refine go_Vi (r := v_3) (As := [.int (ml (((4 : Int32) * x1) + x3).toNatClampNeg)]) (rest := [.int x2]) (wc := (wM a k mh mn mc ms ml mm mt mo mk mr my mb mf)) (wr := []) (w1 := (wM a k mh mn mc ms ml mm mt mo mk mr my mb mf)) (w2 := (wM a k mh mn mc ms ml mm mt mo mk mr my mb mf)) (tc := [(k 21, .int), (k 22, .int), (k 23, .int), (k 24, .boolean), (k 25, .boolean), (k 26, .long), (k 27, .int), (k 28, .long), (k 29, .int)]) hx hb hml hown ht (c_M_stands l D a k H.size (ml (((4 : Int32) * x1) + x3).toNatClampNeg) mh mn mc ms ml mm mt mo mk mr my mb mf v_3 e_3) g_M_88 ⟨rfl, rfl⟩ (n := 1) (by decide +kernel) ⟨(Nat.le_of_ble_eq_true rfl), (Nat.le_of_ble_eq_true rfl)⟩ hP hD hK hS hA ⟨Nat.zero_le _, Nat.zero_le _⟩ [0, 1, 2, 3, 4, 5, 6, 7, 8, 9] [] [0, 1, 2, 3, 4, 5, 6, 7, 8] [0, 1, 2, 3, 4, 5, 6, 7, 8, 9] rfl rfl rfl rfl (by decide) (by decide) (by decide) rfl (by decide) 0 rfl rfl rfl rfl rfl hl.1 (Nat.le_of_ble_eq_true rfl) d_M_touching_21 (fun H locs hP hD hS => ?_)
    refine lv_if_eq (tgt := 31) hx hb d_M_touching_24 (by decide) (fun c_4 => ?_) (fun c_4 => ?_)
    · have h := ite_T c_4 h
      refine lv_iconst (v := 0) hx hb d_M_touching_31 (by decide) ?_
      refine lv_iadd hx hb d_M_touching_32 ?_
      refine lv_istore_n (lv' := [(2, .int (x2 + (0 : Int32))), (0, .ref (a 20)), (1, .int x1), (3, .int x3)]) hx hb d_M_touching_33 rfl hl (by decide) rfl (fun ls hl => ?_)
      refine lv_iinc (v := x3 + 1) (lv' := [(3, .int (x3 + 1)), (2, .int (x2 + (0 : Int32))), (0, .ref (a 20)), (1, .int x1)]) hx hb d_M_touching_34 hl (k := 3) rfl rfl (by decide) rfl (fun ls hl => ?_)
      refine lv_goto (tgt := 4) hx hb d_M_touching_37 (by decide) ?_
      exact hrec4 _ _ _ _ _ _ _ h _ _ _ hP hD hS (lv_sub hl [2, 3, 1, 0] rfl)
    · have h := ite_F c_4 h
      refine lv_iconst (v := 1) hx hb d_M_touching_27 (by decide) ?_
      refine lv_goto (tgt := 32) hx hb d_M_touching_28 (by decide) ?_
      refine lv_iadd hx hb d_M_touching_32 ?_
      refine lv_istore_n (lv' := [(2, .int (x2 + (1 : Int32))), (0, .ref (a 20)), (1, .int x1), (3, .int x3)]) hx hb d_M_touching_33 rfl hl (by decide) rfl (fun ls hl => ?_)
      refine lv_iinc (v := x3 + 1) (lv' := [(3, .int (x3 + 1)), (2, .int (x2 + (1 : Int32))), (0, .ref (a 20)), (1, .int x1)]) hx hb d_M_touching_34 hl (k := 3) rfl rfl (by decide) rfl (fun ls hl => ?_)
      refine lv_goto (tgt := 4) hx hb d_M_touching_37 (by decide) ?_
      exact hrec4 _ _ _ _ _ _ _ h _ _ _ hP hD hS (lv_sub hl [2, 3, 1, 0] rfl)
theorem k_M_touching_4_L {p : Program} {l : Launch} {e : Env} {s : State} {m : MethodId} {args : Array Value} {below : List Frame} {meth : Method} {c : Code} {D : va_G} {A : Nat → Prop} {a : Nat → Nat} {k : Nat → ClassId} {mh : Int32} {mc : Int32} {ms : Nat → Int32} {mm : Nat → Int32} {mt : Nat → Int32} {mk : Int32} {mr : Nat → Int64} {my : Nat → Int32} {mb : Nat → Int64} {mf : Nat → Int32} (C : cx D [(k 21, .int), (k 22, .int), (k 23, .int), (k 24, .boolean), (k 25, .boolean), (k 26, .long), (k 27, .int), (k 28, .long), (k 29, .int)] R_M b_M_touching 4 (some .int) A p s m args meth c) : ∀ n : Nat, H_M_touching_4 p l e s m args below meth c D A a k mh mc ms mm mt mk mr my mb mf (L_M_touching_4 n)
  | 0 => fun _ _ _ _ _ _ _ h => nomatch h
  | n + 1 => k_M_touching_4 C (k_M_touching_4_L C n)
set_option maxHeartbeats 4000000 in
set_option maxRecDepth 100000 in
theorem k_M_touching_0 {p : Program} {l : Launch} {e : Env} {s : State} {m : MethodId} {args : Array Value} {below : List Frame} {meth : Method} {c : Code} {D : va_G} {A : Nat → Prop} {a : Nat → Nat} {k : Nat → ClassId} {mh : Int32} {mc : Int32} {ms : Nat → Int32} {mm : Nat → Int32} {mt : Nat → Int32} {mk : Int32} {mr : Nat → Int64} {my : Nat → Int32} {mb : Nat → Int64} {mf : Nat → Int32} (C : cx D [(k 21, .int), (k 22, .int), (k 23, .int), (k 24, .boolean), (k 25, .boolean), (k 26, .long), (k 27, .int), (k 28, .long), (k 29, .int)] R_M b_M_touching 4 (some .int) A p s m args meth c) : H_M_touching_0 p l e s m args below meth c D A a k mh mc ms mm mt mk mr my mb mf (J_M_touching_0) := by
  obtain ⟨hx, hb, hr, hml, hown, ht, hlk, hA, hK⟩ := id C
  intro x1 mn ml mo r h H locs ls hP hD hS hl
  unfold J_M_touching_0 at h
  refine lv_iconst (v := 0) hx hb d_M_touching_0 (by decide) ?_
  refine lv_istore_n (lv' := [(2, .int (0 : Int32)), (0, .ref (a 20)), (1, .int x1)]) hx hb d_M_touching_1 rfl hl (by decide) rfl (fun ls hl => ?_)
  refine lv_iconst (v := 0) hx hb d_M_touching_2 (by decide) ?_
  refine lv_istore_n (lv' := [(3, .int (0 : Int32)), (2, .int (0 : Int32)), (0, .ref (a 20)), (1, .int x1)]) hx hb d_M_touching_3 rfl hl (by decide) rfl (fun ls hl => ?_)
  exact (k_M_touching_4_L C fu) _ _ _ _ _ _ _ h _ _ _ hP hD hS (lv_sub hl [2, 3, 1, 0] rfl)
set_option maxRecDepth 20000 in
theorem c_M_touching (l : Launch) (D : va_G) (a : Nat → Nat) (k : Nat → ClassId) (sz : Nat) (x1 : Int32) (mh : Int32) (mn : Int32) (mc : Int32) (ms : Nat → Int32) (ml : Nat → Int32) (mm : Nat → Int32) (mt : Nat → Int32) (mo : Nat → Int32) (mk : Int32) (mr : Nat → Int64) (my : Nat → Int32) (mb : Nat → Int64) (mf : Nat → Int32) (r : Int32) (h : F_M_touching x1 mn ml mo = some r) : Met l y_M_touching (Cond.code y_M_touching b_M_touching 4 (some .int) :: lw_g) (rm_M_touching) (va_Pc [.ref (a 20), .int x1] (pcW D [(k 21, .int), (k 22, .int), (k 23, .int), (k 24, .boolean), (k 25, .boolean), (k 26, .long), (k 27, .int), (k 28, .long), (k 29, .int)] (wM a k mh mn mc ms ml mm mt mo mk mr my mb mf) sz)) (qc_M_touching D (va_A (wM a k mh mn mc ms ml mm mt mo mk mr my mb mf) sz) a k mh mn mc ms ml mm mt mo mk mr my mb mf r) 0 0 (va_A (wM a k mh mn mc ms ml mm mt mo mk mr my mb mf) sz) := by
  refine Met.ofW (cc := b_M_touching) (maxL := 4) (ret := (some .int)) (by decide) rfl ?_
  intro p e s m args below meth c s₁ B hml hv
  obtain ⟨rfl, hsz, hP, hK, hD0⟩ := hv
  have hts := atoms_spec (ws := Cond.code y_M_touching b_M_touching 4 (some .int) :: lw_g) B.pre
  subst hsz
  have hD := hD0.self (sz := s.heap.size)
  have hl := lv_entry ([.ref (a 20), .int x1]) (n := 4) (Nat.le_of_ble_eq_true rfl)
  rw [lg_entry_eq]
  generalize (lg_sl ([.ref (a 20), .int x1]) ++ List.replicate (4 - (lg_sl ([.ref (a 20), .int x1])).length) Slot.unset).toArray = ls at hl ⊢
  exact k_M_touching_0 ⟨B.exec, B.bytes, B.returns, hml, findClass_of_methodNamed B.named, fun w hw => hts w (List.mem_cons_of_mem _ hw), B.notSynchronized, fun q h => Or.inr h, hK⟩ _ _ _ _ _ h _ _ _ hP hD va_S.rf hl

def rm_M_open : Room := { frames := 0, cells := 0, slots := 0, locals := 0 }
def qc_M_open (D : va_G) (A : Nat → Prop) (a : Nat → Nat) (k : Nat → ClassId) (mh : Int32) (mn : Int32) (mc : Int32) (ms : Nat → Int32) (ml : Nat → Int32) (mm : Nat → Int32) (mt : Nat → Int32) (mo : Nat → Int32) (mk : Int32) (mr : Nat → Int64) (my : Nat → Int32) (mb : Nat → Int64) (mf : Nat → Int32) (r : Int32) : Array Value → State → Outcome → State → Prop := va_Qi (fun (r1 : Int32) (_ : Unit) => r1 = r) (poW D [(k 21, .int), (k 22, .int), (k 23, .int), (k 24, .boolean), (k 25, .boolean), (k 26, .long), (k 27, .int), (k 28, .long), (k 29, .int)] (wM a k mh mn mc ms ml mm mt mo mk mr my mb mf) A) A
def J_M_open_4 (rec4 : Int32 → Int32 → Int32 → (Nat → Int32) → (Nat → Int32) → Option (Int32)) (x1 : Int32) (x2 : Int32) (mn : Int32) (mm : Nat → Int32) (mo : Nat → Int32) : Option (Int32) :=
  (if ((4 : Int32) * mn) ≤ x2 then some (x1) else (if inb (x2 / (4 : Int32)) 10 then (if (mo (x2 / (4 : Int32)).toNatClampNeg) = 0 then rec4 (x1 + (0 : Int32)) (x2 + 1) mn mm mo else (if inb x2 40 then (if inb ((mm x2.toNatClampNeg) / (4 : Int32)) 10 then (if (mo ((mm x2.toNatClampNeg) / (4 : Int32)).toNatClampNeg) = 0 then rec4 (x1 + (1 : Int32)) (x2 + 1) mn mm mo else rec4 (x1 + (0 : Int32)) (x2 + 1) mn mm mo) else none) else none)) else none))
def L_M_open_4 : Nat → Int32 → Int32 → Int32 → (Nat → Int32) → (Nat → Int32) → Option (Int32)
  | 0 => fun _ _ _ _ _ => none
  | n + 1 => J_M_open_4 (L_M_open_4 n)
def J_M_open_0 (mn : Int32) (mm : Nat → Int32) (mo : Nat → Int32) : Option (Int32) :=
  L_M_open_4 fu (0 : Int32) (0 : Int32) mn mm mo
def F_M_open (mn : Int32) (mm : Nat → Int32) (mo : Nat → Int32) : Option (Int32) := J_M_open_0 mn mm mo
def H_M_open_4 (p : Program) (l : Launch) (e : Env) (s : State) (m : MethodId) (args : Array Value) (below : List Frame) (meth : Method) (c : Code) (D : va_G) (A : Nat → Prop) (a : Nat → Nat) (k : Nat → ClassId) (mh : Int32) (mc : Int32) (ms : Nat → Int32) (ml : Nat → Int32) (mt : Nat → Int32) (mk : Int32) (mr : Nat → Int64) (my : Nat → Int32) (mb : Nat → Int64) (mf : Nat → Int32) (f : Int32 → Int32 → Int32 → (Nat → Int32) → (Nat → Int32) → Option (Int32)) : Prop := ∀ (x1 : Int32) (x2 : Int32) (mn : Int32) (mm : Nat → Int32) (mo : Nat → Int32) (r : Int32), f x1 x2 mn mm mo = some r → ∀ (H : Heap) (locs : List Loc) (ls : Array Slot), va_P D classes (wM a k mh mn mc ms ml mm mt mo mk mr my mb mf) H → va_D A (wM a k mh mn mc ms ml mm mt mo mk mr my mb mf) → va_S A s.heap H locs → lv_has ls 3 [(0, .ref (a 20)), (1, .int x1), (2, .int x2)] → W p l e (rm_M_open) s m args below meth c H locs 0 0 (MQ below (qc_M_open D A a k mh mn mc ms ml mm mt mo mk mr my mb mf r) args s 0 0 A) (F0 m 4 ls [])
def H_M_open_0 (p : Program) (l : Launch) (e : Env) (s : State) (m : MethodId) (args : Array Value) (below : List Frame) (meth : Method) (c : Code) (D : va_G) (A : Nat → Prop) (a : Nat → Nat) (k : Nat → ClassId) (mh : Int32) (mc : Int32) (ms : Nat → Int32) (ml : Nat → Int32) (mt : Nat → Int32) (mk : Int32) (mr : Nat → Int64) (my : Nat → Int32) (mb : Nat → Int64) (mf : Nat → Int32) (f : Int32 → (Nat → Int32) → (Nat → Int32) → Option (Int32)) : Prop := ∀ (mn : Int32) (mm : Nat → Int32) (mo : Nat → Int32) (r : Int32), f mn mm mo = some r → ∀ (H : Heap) (locs : List Loc) (ls : Array Slot), va_P D classes (wM a k mh mn mc ms ml mm mt mo mk mr my mb mf) H → va_D A (wM a k mh mn mc ms ml mm mt mo mk mr my mb mf) → va_S A s.heap H locs → lv_has ls 3 [(0, .ref (a 20))] → W p l e (rm_M_open) s m args below meth c H locs 0 0 (MQ below (qc_M_open D A a k mh mn mc ms ml mm mt mo mk mr my mb mf r) args s 0 0 A) (F0 m 0 ls [])
set_option maxHeartbeats 4000000 in
set_option maxRecDepth 100000 in
theorem k_M_open_4 {p : Program} {l : Launch} {e : Env} {s : State} {m : MethodId} {args : Array Value} {below : List Frame} {meth : Method} {c : Code} {D : va_G} {A : Nat → Prop} {a : Nat → Nat} {k : Nat → ClassId} {mh : Int32} {mc : Int32} {ms : Nat → Int32} {ml : Nat → Int32} {mt : Nat → Int32} {mk : Int32} {mr : Nat → Int64} {my : Nat → Int32} {mb : Nat → Int64} {mf : Nat → Int32} {rec4 : Int32 → Int32 → Int32 → (Nat → Int32) → (Nat → Int32) → Option (Int32)} (C : cx D [(k 21, .int), (k 22, .int), (k 23, .int), (k 24, .boolean), (k 25, .boolean), (k 26, .long), (k 27, .int), (k 28, .long), (k 29, .int)] R_M b_M_open 3 (some .int) A p s m args meth c) (hrec4 : H_M_open_4 p l e s m args below meth c D A a k mh mc ms ml mt mk mr my mb mf rec4) : H_M_open_4 p l e s m args below meth c D A a k mh mc ms ml mt mk mr my mb mf (J_M_open_4 rec4) := by
  obtain ⟨hx, hb, hr, hml, hown, ht, hlk, hA, hK⟩ := id C
  intro x1 x2 mn mm mo r h H locs ls hP hD hS hl
  unfold J_M_open_4 at h
  refine lv_iload_n hx hb d_M_open_4 rfl (lv_at hl 2 rfl) ?_
  refine lv_iconst (v := 4) hx hb d_M_open_5 (by decide) ?_
  refine lv_aload_n hx hb d_M_open_6 rfl (lv_at hl 0 rfl) ?_
  refine va_get (D := D) (ci := 3) (v := .int mn) (C := R_M) (T := F_M) (N := 13) hx hb ht iC_M hown hK hP 0 rfl rfl 1 (by decide) (ht _ ix_163) (fun _ h9 => h9) rfl d_M_open_7 ?_
  refine lv_imul hx hb d_M_open_10 ?_
  refine lv_icmp_ge (tgt := 55) hx hb d_M_open_11 (by decide) (fun c_1 => ?_) (fun c_1 => ?_)
  · have h := ite_T c_1 h
    refine lv_iload_n hx hb d_M_open_55 rfl (lv_at hl 1 rfl) ?_
    cases h
    exact W.iret hx hb hr (fun t ht hW => ⟨⟨_, (), rfl, rfl, by rw [ht]; exact hP, va_K.moved hW.alike hK, hD⟩, hS.F ht⟩) hS.2.2 d_M_open_56 hlk
  · have h := ite_F c_1 h
    refine lv_iload_n hx hb d_M_open_14 rfl (lv_at hl 1 rfl) ?_
    refine lv_aload_n hx hb d_M_open_15 rfl (lv_at hl 0 rfl) ?_
    refine va_get (D := D) (ci := 3) (v := .ref (a 25)) (C := R_M) (T := F_M) (N := 13) hx hb ht iC_M hown hK hP 0 rfl rfl 7 (by decide) (ht _ ix_212) (fun _ h9 => h9) rfl d_M_open_16 ?_
    refine lv_iload_n hx hb d_M_open_19 rfl (lv_at hl 2 rfl) ?_
    refine lv_iconst (v := 4) hx hb d_M_open_20 (by decide) ?_
    refine lv_idiv hx hb d_M_open_21 (by decide) ?_
    obtain ⟨g_2, h⟩ := gd_some h
    refine va_zald hx hb hK hP 5 4 rfl rfl (inb_in g_2) d_M_open_22 ?_
    refine lv_if_eq (tgt := 46) hx hb d_M_open_23 (by decide) (fun c_3 => ?_) (fun c_3 => ?_)
    · have h := ite_T c_3 h
      refine lv_iconst (v := 0) hx hb d_M_open_46 (by decide) ?_
      refine lv_iadd hx hb d_M_open_47 ?_
      refine lv_istore_n (lv' := [(1, .int (x1 + (0 : Int32))), (0, .ref (a 20)), (2, .int x2)]) hx hb d_M_open_48 rfl hl (by decide) rfl (fun ls hl => ?_)
      refine lv_iinc (v := x2 + 1) (lv' := [(2, .int (x2 + 1)), (1, .int (x1 + (0 : Int32))), (0, .ref (a 20))]) hx hb d_M_open_49 hl (k := 2) rfl rfl (by decide) rfl (fun ls hl => ?_)
      refine lv_goto (tgt := 4) hx hb d_M_open_52 (by decide) ?_
      exact hrec4 _ _ _ _ _ _ h _ _ _ hP hD hS (lv_sub hl [2, 1, 0] rfl)
    · have h := ite_F c_3 h
      refine lv_aload_n hx hb d_M_open_26 rfl (lv_at hl 0 rfl) ?_
      refine va_get (D := D) (ci := 3) (v := .ref (a 25)) (C := R_M) (T := F_M) (N := 13) hx hb ht iC_M hown hK hP 0 rfl rfl 7 (by decide) (ht _ ix_212) (fun _ h9 => h9) rfl d_M_open_27 ?_
      refine lv_aload_n hx hb d_M_open_30 rfl (lv_at hl 0 rfl) ?_
      refine va_get (D := D) (ci := 3) (v := .ref (a 23)) (C := R_M) (T := F_M) (N := 13) hx hb ht iC_M hown hK hP 0 rfl rfl 5 (by decide) (ht _ ix_170) (fun _ h9 => h9) rfl d_M_open_31 ?_
      refine lv_iload_n hx hb d_M_open_34 rfl (lv_at hl 2 rfl) ?_
      obtain ⟨g_4, h⟩ := gd_some h
      refine va_iald hx hb hK hP 3 2 rfl rfl (inb_in g_4) d_M_open_35 ?_
      refine lv_iconst (v := 4) hx hb d_M_open_36 (by decide) ?_
      refine lv_idiv hx hb d_M_open_37 (by decide) ?_
      obtain ⟨g_5, h⟩ := gd_some h
      refine va_zald hx hb hK hP 5 4 rfl rfl (inb_in g_5) d_M_open_38 ?_
      refine lv_if_ne (tgt := 46) hx hb d_M_open_39 (by decide) (fun c_6 => ?_) (fun c_6 => ?_)
      · have h := ite_F c_6 h
        refine lv_iconst (v := 0) hx hb d_M_open_46 (by decide) ?_
        refine lv_iadd hx hb d_M_open_47 ?_
        refine lv_istore_n (lv' := [(1, .int (x1 + (0 : Int32))), (0, .ref (a 20)), (2, .int x2)]) hx hb d_M_open_48 rfl hl (by decide) rfl (fun ls hl => ?_)
        refine lv_iinc (v := x2 + 1) (lv' := [(2, .int (x2 + 1)), (1, .int (x1 + (0 : Int32))), (0, .ref (a 20))]) hx hb d_M_open_49 hl (k := 2) rfl rfl (by decide) rfl (fun ls hl => ?_)
        refine lv_goto (tgt := 4) hx hb d_M_open_52 (by decide) ?_
        exact hrec4 _ _ _ _ _ _ h _ _ _ hP hD hS (lv_sub hl [2, 1, 0] rfl)
      · have h := ite_T c_6 h
        refine lv_iconst (v := 1) hx hb d_M_open_42 (by decide) ?_
        refine lv_goto (tgt := 47) hx hb d_M_open_43 (by decide) ?_
        refine lv_iadd hx hb d_M_open_47 ?_
        refine lv_istore_n (lv' := [(1, .int (x1 + (1 : Int32))), (0, .ref (a 20)), (2, .int x2)]) hx hb d_M_open_48 rfl hl (by decide) rfl (fun ls hl => ?_)
        refine lv_iinc (v := x2 + 1) (lv' := [(2, .int (x2 + 1)), (1, .int (x1 + (1 : Int32))), (0, .ref (a 20))]) hx hb d_M_open_49 hl (k := 2) rfl rfl (by decide) rfl (fun ls hl => ?_)
        refine lv_goto (tgt := 4) hx hb d_M_open_52 (by decide) ?_
        exact hrec4 _ _ _ _ _ _ h _ _ _ hP hD hS (lv_sub hl [2, 1, 0] rfl)
theorem k_M_open_4_L {p : Program} {l : Launch} {e : Env} {s : State} {m : MethodId} {args : Array Value} {below : List Frame} {meth : Method} {c : Code} {D : va_G} {A : Nat → Prop} {a : Nat → Nat} {k : Nat → ClassId} {mh : Int32} {mc : Int32} {ms : Nat → Int32} {ml : Nat → Int32} {mt : Nat → Int32} {mk : Int32} {mr : Nat → Int64} {my : Nat → Int32} {mb : Nat → Int64} {mf : Nat → Int32} (C : cx D [(k 21, .int), (k 22, .int), (k 23, .int), (k 24, .boolean), (k 25, .boolean), (k 26, .long), (k 27, .int), (k 28, .long), (k 29, .int)] R_M b_M_open 3 (some .int) A p s m args meth c) : ∀ n : Nat, H_M_open_4 p l e s m args below meth c D A a k mh mc ms ml mt mk mr my mb mf (L_M_open_4 n)
  | 0 => fun _ _ _ _ _ _ h => nomatch h
  | n + 1 => k_M_open_4 C (k_M_open_4_L C n)
set_option maxHeartbeats 4000000 in
set_option maxRecDepth 100000 in
theorem k_M_open_0 {p : Program} {l : Launch} {e : Env} {s : State} {m : MethodId} {args : Array Value} {below : List Frame} {meth : Method} {c : Code} {D : va_G} {A : Nat → Prop} {a : Nat → Nat} {k : Nat → ClassId} {mh : Int32} {mc : Int32} {ms : Nat → Int32} {ml : Nat → Int32} {mt : Nat → Int32} {mk : Int32} {mr : Nat → Int64} {my : Nat → Int32} {mb : Nat → Int64} {mf : Nat → Int32} (C : cx D [(k 21, .int), (k 22, .int), (k 23, .int), (k 24, .boolean), (k 25, .boolean), (k 26, .long), (k 27, .int), (k 28, .long), (k 29, .int)] R_M b_M_open 3 (some .int) A p s m args meth c) : H_M_open_0 p l e s m args below meth c D A a k mh mc ms ml mt mk mr my mb mf (J_M_open_0) := by
  obtain ⟨hx, hb, hr, hml, hown, ht, hlk, hA, hK⟩ := id C
  intro mn mm mo r h H locs ls hP hD hS hl
  unfold J_M_open_0 at h
  refine lv_iconst (v := 0) hx hb d_M_open_0 (by decide) ?_
  refine lv_istore_n (lv' := [(1, .int (0 : Int32)), (0, .ref (a 20))]) hx hb d_M_open_1 rfl hl (by decide) rfl (fun ls hl => ?_)
  refine lv_iconst (v := 0) hx hb d_M_open_2 (by decide) ?_
  refine lv_istore_n (lv' := [(2, .int (0 : Int32)), (1, .int (0 : Int32)), (0, .ref (a 20))]) hx hb d_M_open_3 rfl hl (by decide) rfl (fun ls hl => ?_)
  exact (k_M_open_4_L C fu) _ _ _ _ _ _ h _ _ _ hP hD hS (lv_sub hl [2, 1, 0] rfl)
set_option maxRecDepth 20000 in
theorem c_M_open (l : Launch) (D : va_G) (a : Nat → Nat) (k : Nat → ClassId) (sz : Nat) (mh : Int32) (mn : Int32) (mc : Int32) (ms : Nat → Int32) (ml : Nat → Int32) (mm : Nat → Int32) (mt : Nat → Int32) (mo : Nat → Int32) (mk : Int32) (mr : Nat → Int64) (my : Nat → Int32) (mb : Nat → Int64) (mf : Nat → Int32) (r : Int32) (h : F_M_open mn mm mo = some r) : Met l y_M_open (Cond.code y_M_open b_M_open 3 (some .int) :: lw_g) (rm_M_open) (va_Pc [.ref (a 20)] (pcW D [(k 21, .int), (k 22, .int), (k 23, .int), (k 24, .boolean), (k 25, .boolean), (k 26, .long), (k 27, .int), (k 28, .long), (k 29, .int)] (wM a k mh mn mc ms ml mm mt mo mk mr my mb mf) sz)) (qc_M_open D (va_A (wM a k mh mn mc ms ml mm mt mo mk mr my mb mf) sz) a k mh mn mc ms ml mm mt mo mk mr my mb mf r) 0 0 (va_A (wM a k mh mn mc ms ml mm mt mo mk mr my mb mf) sz) := by
  refine Met.ofW (cc := b_M_open) (maxL := 3) (ret := (some .int)) (by decide) rfl ?_
  intro p e s m args below meth c s₁ B hml hv
  obtain ⟨rfl, hsz, hP, hK, hD0⟩ := hv
  have hts := atoms_spec (ws := Cond.code y_M_open b_M_open 3 (some .int) :: lw_g) B.pre
  subst hsz
  have hD := hD0.self (sz := s.heap.size)
  have hl := lv_entry ([.ref (a 20)]) (n := 3) (Nat.le_of_ble_eq_true rfl)
  rw [lg_entry_eq]
  generalize (lg_sl ([.ref (a 20)]) ++ List.replicate (3 - (lg_sl ([.ref (a 20)])).length) Slot.unset).toArray = ls at hl ⊢
  exact k_M_open_0 ⟨B.exec, B.bytes, B.returns, hml, findClass_of_methodNamed B.named, fun w hw => hts w (List.mem_cons_of_mem _ hw), B.notSynchronized, fun q h => Or.inr h, hK⟩ _ _ _ _ h _ _ _ hP hD va_S.rf hl

def rm_M_sweep : Room := { frames := 2, cells := 0, slots := 0, locals := 46 }
def qc_M_sweep (D : va_G) (A : Nat → Prop) (a : Nat → Nat) (k : Nat → ClassId) (mh : Int32) (mn : Int32) (mc : Int32) (ms : Nat → Int32) (ml : Nat → Int32) (mt : Nat → Int32) (mk : Int32) (mr : Nat → Int64) (my : Nat → Int32) (mb : Nat → Int64) (mf : Nat → Int32) (r : Int32 × (Nat → Int32) × (Nat → Int32)) : Array Value → State → Outcome → State → Prop := va_Qi (fun (r1 : Int32) (_ : Unit) => r1 = r.1) (poW D [(k 21, .int), (k 22, .int), (k 23, .int), (k 24, .boolean), (k 25, .boolean), (k 26, .long), (k 27, .int), (k 28, .long), (k 29, .int)] (wM a k mh mn mc ms ml r.2.1 mt r.2.2 mk mr my mb mf) A) A
def J_M_sweep_123 (rec55 : Int32 → Int32 → Int32 → Int32 → (Nat → Int32) → (Nat → Int32) → (Nat → Int32) → Option (Int32 × (Nat → Int32) × (Nat → Int32))) (rec94 : Int32 → Int32 → Int32 → Int32 → Int32 → Int32 → (Nat → Int32) → (Nat → Int32) → (Nat → Int32) → Option (Int32 × (Nat → Int32) × (Nat → Int32))) (x2 : Int32) (x3 : Int32) (x4 : Int32) (x5 : Int32) (x6 : Int32) (y0 : Int32) (mn : Int32) (ml : Nat → Int32) (mm : Nat → Int32) (mo : Nat → Int32) : Option (Int32 × (Nat → Int32) × (Nat → Int32)) :=
  (if y0 ≤ x5 then rec94 x2 x3 x4 x5 (x6 + 1) mn ml mm mo else rec94 x2 x6 x4 y0 (x6 + 1) mn ml mm mo)
def J_M_sweep_94 (rec55 : Int32 → Int32 → Int32 → Int32 → (Nat → Int32) → (Nat → Int32) → (Nat → Int32) → Option (Int32 × (Nat → Int32) × (Nat → Int32))) (rec94 : Int32 → Int32 → Int32 → Int32 → Int32 → Int32 → (Nat → Int32) → (Nat → Int32) → (Nat → Int32) → Option (Int32 × (Nat → Int32) × (Nat → Int32))) (x2 : Int32) (x3 : Int32) (x4 : Int32) (x5 : Int32) (x6 : Int32) (mn : Int32) (ml : Nat → Int32) (mm : Nat → Int32) (mo : Nat → Int32) : Option (Int32 × (Nat → Int32) × (Nat → Int32)) :=
  (if mn ≤ x6 then rec55 x2 x3 (x4 + 1) mn ml mm mo else (if inb x6 10 then (if (mo x6.toNatClampNeg) = 0 then (Option.bind (F_M_touching x6 mn ml mo) (fun v_4 => J_M_sweep_123 rec55 rec94 x2 x3 x4 x5 x6 v_4 mn ml mm mo)) else J_M_sweep_123 rec55 rec94 x2 x3 x4 x5 x6 (-1 : Int32) mn ml mm mo) else none))
def L_M_sweep_94 (rec55 : Int32 → Int32 → Int32 → Int32 → (Nat → Int32) → (Nat → Int32) → (Nat → Int32) → Option (Int32 × (Nat → Int32) × (Nat → Int32))) : Nat → Int32 → Int32 → Int32 → Int32 → Int32 → Int32 → (Nat → Int32) → (Nat → Int32) → (Nat → Int32) → Option (Int32 × (Nat → Int32) × (Nat → Int32))
  | 0 => fun _ _ _ _ _ _ _ _ _ => none
  | n + 1 => J_M_sweep_94 rec55 (L_M_sweep_94 rec55 n)
def J_M_sweep_55 (rec55 : Int32 → Int32 → Int32 → Int32 → (Nat → Int32) → (Nat → Int32) → (Nat → Int32) → Option (Int32 × (Nat → Int32) × (Nat → Int32))) (x2 : Int32) (x3 : Int32) (x4 : Int32) (mn : Int32) (ml : Nat → Int32) (mm : Nat → Int32) (mo : Nat → Int32) : Option (Int32 × (Nat → Int32) × (Nat → Int32)) :=
  (if mn ≤ x4 then some (x2, mm, mo) else (if inb x3 10 then (Option.bind (F_M_open mn mm (upd mo x3.toNatClampNeg (vp_nar .boolean (1 : Int32)))) (fun v_3 => (if v_3 ≤ x2 then L_M_sweep_94 rec55 fu x2 x3 x4 (-1 : Int32) (0 : Int32) mn ml mm (upd mo x3.toNatClampNeg (vp_nar .boolean (1 : Int32))) else (Option.bind (F_M_open mn mm (upd mo x3.toNatClampNeg (vp_nar .boolean (1 : Int32)))) (fun v_5 => L_M_sweep_94 rec55 fu v_5 x3 x4 (-1 : Int32) (0 : Int32) mn ml mm (upd mo x3.toNatClampNeg (vp_nar .boolean (1 : Int32)))))))) else none))
def L_M_sweep_55 : Nat → Int32 → Int32 → Int32 → Int32 → (Nat → Int32) → (Nat → Int32) → (Nat → Int32) → Option (Int32 × (Nat → Int32) × (Nat → Int32))
  | 0 => fun _ _ _ _ _ _ _ => none
  | n + 1 => J_M_sweep_55 (L_M_sweep_55 n)
def J_M_sweep_27 (rec27 : Int32 → Int32 → Int32 → (Nat → Int32) → (Nat → Int32) → (Nat → Int32) → Option (Int32 × (Nat → Int32) × (Nat → Int32))) (x1 : Int32) (x2 : Int32) (mn : Int32) (ml : Nat → Int32) (mm : Nat → Int32) (mo : Nat → Int32) : Option (Int32 × (Nat → Int32) × (Nat → Int32)) :=
  (if mn ≤ x2 then L_M_sweep_55 fu (0 : Int32) x1 (0 : Int32) mn ml mm mo else (if inb x2 10 then rec27 x1 (x2 + 1) mn ml mm (upd mo x2.toNatClampNeg (vp_nar .boolean (0 : Int32))) else none))
def L_M_sweep_27 : Nat → Int32 → Int32 → Int32 → (Nat → Int32) → (Nat → Int32) → (Nat → Int32) → Option (Int32 × (Nat → Int32) × (Nat → Int32))
  | 0 => fun _ _ _ _ _ _ => none
  | n + 1 => J_M_sweep_27 (L_M_sweep_27 n)
def J_M_sweep_0 (x1 : Int32) (mn : Int32) (ml : Nat → Int32) (mm : Nat → Int32) (mo : Nat → Int32) : Option (Int32 × (Nat → Int32) × (Nat → Int32)) :=
  (if x1 < 0 then some ((-1 : Int32), mm, mo) else (if mn ≤ x1 then some ((-1 : Int32), mm, mo) else (Option.bind (F_M_fault mn ml) (fun v_3 => (if v_3 ≤ 0 then (Option.bind (F_M_findMates mn ml mm) (fun v_5 => L_M_sweep_27 fu x1 (0 : Int32) mn ml v_5 mo)) else some ((-1 : Int32), mm, mo))))))
def F_M_sweep (x1 : Int32) (mn : Int32) (ml : Nat → Int32) (mm : Nat → Int32) (mo : Nat → Int32) : Option (Int32 × (Nat → Int32) × (Nat → Int32)) := J_M_sweep_0 x1 mn ml mm mo
def H_M_sweep_123 (p : Program) (l : Launch) (e : Env) (s : State) (m : MethodId) (args : Array Value) (below : List Frame) (meth : Method) (c : Code) (D : va_G) (A : Nat → Prop) (a : Nat → Nat) (k : Nat → ClassId) (mh : Int32) (mc : Int32) (ms : Nat → Int32) (mt : Nat → Int32) (mk : Int32) (mr : Nat → Int64) (my : Nat → Int32) (mb : Nat → Int64) (mf : Nat → Int32) (f : Int32 → Int32 → Int32 → Int32 → Int32 → Int32 → Int32 → (Nat → Int32) → (Nat → Int32) → (Nat → Int32) → Option (Int32 × (Nat → Int32) × (Nat → Int32))) : Prop := ∀ (x2 : Int32) (x3 : Int32) (x4 : Int32) (x5 : Int32) (x6 : Int32) (y0 : Int32) (mn : Int32) (ml : Nat → Int32) (mm : Nat → Int32) (mo : Nat → Int32) (r : Int32 × (Nat → Int32) × (Nat → Int32)), f x2 x3 x4 x5 x6 y0 mn ml mm mo = some r → ∀ (H : Heap) (locs : List Loc) (ls : Array Slot), va_P D classes (wM a k mh mn mc ms ml mm mt mo mk mr my mb mf) H → va_D A (wM a k mh mn mc ms ml mm mt mo mk mr my mb mf) → va_S A s.heap H locs → lv_has ls 8 [(0, .ref (a 20)), (2, .int x2), (3, .int x3), (4, .int x4), (5, .int x5), (6, .int x6)] → W p l e (rm_M_sweep) s m args below meth c H locs 0 0 (MQ below (qc_M_sweep D A a k mh mn mc ms ml mt mk mr my mb mf r) args s 0 0 A) (F0 m 123 ls [.int y0])
def H_M_sweep_94 (p : Program) (l : Launch) (e : Env) (s : State) (m : MethodId) (args : Array Value) (below : List Frame) (meth : Method) (c : Code) (D : va_G) (A : Nat → Prop) (a : Nat → Nat) (k : Nat → ClassId) (mh : Int32) (mc : Int32) (ms : Nat → Int32) (mt : Nat → Int32) (mk : Int32) (mr : Nat → Int64) (my : Nat → Int32) (mb : Nat → Int64) (mf : Nat → Int32) (f : Int32 → Int32 → Int32 → Int32 → Int32 → Int32 → (Nat → Int32) → (Nat → Int32) → (Nat → Int32) → Option (Int32 × (Nat → Int32) × (Nat → Int32))) : Prop := ∀ (x2 : Int32) (x3 : Int32) (x4 : Int32) (x5 : Int32) (x6 : Int32) (mn : Int32) (ml : Nat → Int32) (mm : Nat → Int32) (mo : Nat → Int32) (r : Int32 × (Nat → Int32) × (Nat → Int32)), f x2 x3 x4 x5 x6 mn ml mm mo = some r → ∀ (H : Heap) (locs : List Loc) (ls : Array Slot), va_P D classes (wM a k mh mn mc ms ml mm mt mo mk mr my mb mf) H → va_D A (wM a k mh mn mc ms ml mm mt mo mk mr my mb mf) → va_S A s.heap H locs → lv_has ls 8 [(0, .ref (a 20)), (2, .int x2), (3, .int x3), (4, .int x4), (5, .int x5), (6, .int x6)] → W p l e (rm_M_sweep) s m args below meth c H locs 0 0 (MQ below (qc_M_sweep D A a k mh mn mc ms ml mt mk mr my mb mf r) args s 0 0 A) (F0 m 94 ls [])
def H_M_sweep_55 (p : Program) (l : Launch) (e : Env) (s : State) (m : MethodId) (args : Array Value) (below : List Frame) (meth : Method) (c : Code) (D : va_G) (A : Nat → Prop) (a : Nat → Nat) (k : Nat → ClassId) (mh : Int32) (mc : Int32) (ms : Nat → Int32) (mt : Nat → Int32) (mk : Int32) (mr : Nat → Int64) (my : Nat → Int32) (mb : Nat → Int64) (mf : Nat → Int32) (f : Int32 → Int32 → Int32 → Int32 → (Nat → Int32) → (Nat → Int32) → (Nat → Int32) → Option (Int32 × (Nat → Int32) × (Nat → Int32))) : Prop := ∀ (x2 : Int32) (x3 : Int32) (x4 : Int32) (mn : Int32) (ml : Nat → Int32) (mm : Nat → Int32) (mo : Nat → Int32) (r : Int32 × (Nat → Int32) × (Nat → Int32)), f x2 x3 x4 mn ml mm mo = some r → ∀ (H : Heap) (locs : List Loc) (ls : Array Slot), va_P D classes (wM a k mh mn mc ms ml mm mt mo mk mr my mb mf) H → va_D A (wM a k mh mn mc ms ml mm mt mo mk mr my mb mf) → va_S A s.heap H locs → lv_has ls 8 [(0, .ref (a 20)), (2, .int x2), (3, .int x3), (4, .int x4)] → W p l e (rm_M_sweep) s m args below meth c H locs 0 0 (MQ below (qc_M_sweep D A a k mh mn mc ms ml mt mk mr my mb mf r) args s 0 0 A) (F0 m 55 ls [])
def H_M_sweep_27 (p : Program) (l : Launch) (e : Env) (s : State) (m : MethodId) (args : Array Value) (below : List Frame) (meth : Method) (c : Code) (D : va_G) (A : Nat → Prop) (a : Nat → Nat) (k : Nat → ClassId) (mh : Int32) (mc : Int32) (ms : Nat → Int32) (mt : Nat → Int32) (mk : Int32) (mr : Nat → Int64) (my : Nat → Int32) (mb : Nat → Int64) (mf : Nat → Int32) (f : Int32 → Int32 → Int32 → (Nat → Int32) → (Nat → Int32) → (Nat → Int32) → Option (Int32 × (Nat → Int32) × (Nat → Int32))) : Prop := ∀ (x1 : Int32) (x2 : Int32) (mn : Int32) (ml : Nat → Int32) (mm : Nat → Int32) (mo : Nat → Int32) (r : Int32 × (Nat → Int32) × (Nat → Int32)), f x1 x2 mn ml mm mo = some r → ∀ (H : Heap) (locs : List Loc) (ls : Array Slot), va_P D classes (wM a k mh mn mc ms ml mm mt mo mk mr my mb mf) H → va_D A (wM a k mh mn mc ms ml mm mt mo mk mr my mb mf) → va_S A s.heap H locs → lv_has ls 8 [(0, .ref (a 20)), (1, .int x1), (2, .int x2)] → W p l e (rm_M_sweep) s m args below meth c H locs 0 0 (MQ below (qc_M_sweep D A a k mh mn mc ms ml mt mk mr my mb mf r) args s 0 0 A) (F0 m 27 ls [])
def H_M_sweep_0 (p : Program) (l : Launch) (e : Env) (s : State) (m : MethodId) (args : Array Value) (below : List Frame) (meth : Method) (c : Code) (D : va_G) (A : Nat → Prop) (a : Nat → Nat) (k : Nat → ClassId) (mh : Int32) (mc : Int32) (ms : Nat → Int32) (mt : Nat → Int32) (mk : Int32) (mr : Nat → Int64) (my : Nat → Int32) (mb : Nat → Int64) (mf : Nat → Int32) (f : Int32 → Int32 → (Nat → Int32) → (Nat → Int32) → (Nat → Int32) → Option (Int32 × (Nat → Int32) × (Nat → Int32))) : Prop := ∀ (x1 : Int32) (mn : Int32) (ml : Nat → Int32) (mm : Nat → Int32) (mo : Nat → Int32) (r : Int32 × (Nat → Int32) × (Nat → Int32)), f x1 mn ml mm mo = some r → ∀ (H : Heap) (locs : List Loc) (ls : Array Slot), va_P D classes (wM a k mh mn mc ms ml mm mt mo mk mr my mb mf) H → va_D A (wM a k mh mn mc ms ml mm mt mo mk mr my mb mf) → va_S A s.heap H locs → lv_has ls 8 [(0, .ref (a 20)), (1, .int x1)] → W p l e (rm_M_sweep) s m args below meth c H locs 0 0 (MQ below (qc_M_sweep D A a k mh mn mc ms ml mt mk mr my mb mf r) args s 0 0 A) (F0 m 0 ls [])
set_option maxHeartbeats 4000000 in
set_option maxRecDepth 100000 in
theorem k_M_sweep_123 {p : Program} {l : Launch} {e : Env} {s : State} {m : MethodId} {args : Array Value} {below : List Frame} {meth : Method} {c : Code} {D : va_G} {A : Nat → Prop} {a : Nat → Nat} {k : Nat → ClassId} {mh : Int32} {mc : Int32} {ms : Nat → Int32} {mt : Nat → Int32} {mk : Int32} {mr : Nat → Int64} {my : Nat → Int32} {mb : Nat → Int64} {mf : Nat → Int32} {rec55 : Int32 → Int32 → Int32 → Int32 → (Nat → Int32) → (Nat → Int32) → (Nat → Int32) → Option (Int32 × (Nat → Int32) × (Nat → Int32))} {rec94 : Int32 → Int32 → Int32 → Int32 → Int32 → Int32 → (Nat → Int32) → (Nat → Int32) → (Nat → Int32) → Option (Int32 × (Nat → Int32) × (Nat → Int32))} (C : cx D [(k 21, .int), (k 22, .int), (k 23, .int), (k 24, .boolean), (k 25, .boolean), (k 26, .long), (k 27, .int), (k 28, .long), (k 29, .int)] R_M b_M_sweep 8 (some .int) A p s m args meth c) (hrec55 : H_M_sweep_55 p l e s m args below meth c D A a k mh mc ms mt mk mr my mb mf rec55) (hrec94 : H_M_sweep_94 p l e s m args below meth c D A a k mh mc ms mt mk mr my mb mf rec94) : H_M_sweep_123 p l e s m args below meth c D A a k mh mc ms mt mk mr my mb mf (J_M_sweep_123 rec55 rec94) := by
  obtain ⟨hx, hb, hr, hml, hown, ht, hlk, hA, hK⟩ := id C
  intro x2 x3 x4 x5 x6 y0 mn ml mm mo r h H locs ls hP hD hS hl
  unfold J_M_sweep_123 at h
  refine lv_istore (lv' := [(7, .int y0), (0, .ref (a 20)), (2, .int x2), (3, .int x3), (4, .int x4), (5, .int x5), (6, .int x6)]) hx hb d_M_sweep_123 hl (by decide) rfl (fun ls hl => ?_)
  refine lv_iload hx hb d_M_sweep_125 (lv_at hl 0 rfl) ?_
  refine lv_iload hx hb d_M_sweep_127 (lv_at hl 5 rfl) ?_
  refine lv_icmp_le (tgt := 139) hx hb d_M_sweep_129 (by decide) (fun c_1 => ?_) (fun c_1 => ?_)
  · have h := ite_T c_1 h
    refine lv_iinc (v := x6 + 1) (lv' := [(6, .int (x6 + 1)), (7, .int y0), (0, .ref (a 20)), (2, .int x2), (3, .int x3), (4, .int x4), (5, .int x5)]) hx hb d_M_sweep_139 hl (k := 6) rfl rfl (by decide) rfl (fun ls hl => ?_)
    refine lv_goto (tgt := 94) hx hb d_M_sweep_142 (by decide) ?_
    exact hrec94 _ _ _ _ _ _ _ _ _ _ h _ _ _ hP hD hS (lv_sub hl [2, 3, 4, 5, 6, 0] rfl)
  · have h := ite_F c_1 h
    refine lv_iload hx hb d_M_sweep_132 (lv_at hl 0 rfl) ?_
    refine lv_istore (lv' := [(5, .int y0), (7, .int y0), (0, .ref (a 20)), (2, .int x2), (3, .int x3), (4, .int x4), (6, .int x6)]) hx hb d_M_sweep_134 hl (by decide) rfl (fun ls hl => ?_)
    refine lv_iload hx hb d_M_sweep_136 (lv_at hl 6 rfl) ?_
    refine lv_istore_n (lv' := [(3, .int x6), (5, .int y0), (7, .int y0), (0, .ref (a 20)), (2, .int x2), (4, .int x4), (6, .int x6)]) hx hb d_M_sweep_138 rfl hl (by decide) rfl (fun ls hl => ?_)
    refine lv_iinc (v := x6 + 1) (lv' := [(6, .int (x6 + 1)), (3, .int x6), (5, .int y0), (7, .int y0), (0, .ref (a 20)), (2, .int x2), (4, .int x4)]) hx hb d_M_sweep_139 hl (k := 6) rfl rfl (by decide) rfl (fun ls hl => ?_)
    refine lv_goto (tgt := 94) hx hb d_M_sweep_142 (by decide) ?_
    exact hrec94 _ _ _ _ _ _ _ _ _ _ h _ _ _ hP hD hS (lv_sub hl [4, 5, 1, 6, 2, 0] rfl)
set_option maxHeartbeats 4000000 in
set_option maxRecDepth 100000 in
theorem k_M_sweep_94 {p : Program} {l : Launch} {e : Env} {s : State} {m : MethodId} {args : Array Value} {below : List Frame} {meth : Method} {c : Code} {D : va_G} {A : Nat → Prop} {a : Nat → Nat} {k : Nat → ClassId} {mh : Int32} {mc : Int32} {ms : Nat → Int32} {mt : Nat → Int32} {mk : Int32} {mr : Nat → Int64} {my : Nat → Int32} {mb : Nat → Int64} {mf : Nat → Int32} {rec55 : Int32 → Int32 → Int32 → Int32 → (Nat → Int32) → (Nat → Int32) → (Nat → Int32) → Option (Int32 × (Nat → Int32) × (Nat → Int32))} {rec94 : Int32 → Int32 → Int32 → Int32 → Int32 → Int32 → (Nat → Int32) → (Nat → Int32) → (Nat → Int32) → Option (Int32 × (Nat → Int32) × (Nat → Int32))} (C : cx D [(k 21, .int), (k 22, .int), (k 23, .int), (k 24, .boolean), (k 25, .boolean), (k 26, .long), (k 27, .int), (k 28, .long), (k 29, .int)] R_M b_M_sweep 8 (some .int) A p s m args meth c) (hrec55 : H_M_sweep_55 p l e s m args below meth c D A a k mh mc ms mt mk mr my mb mf rec55) (hrec94 : H_M_sweep_94 p l e s m args below meth c D A a k mh mc ms mt mk mr my mb mf rec94) : H_M_sweep_94 p l e s m args below meth c D A a k mh mc ms mt mk mr my mb mf (J_M_sweep_94 rec55 rec94) := by
  obtain ⟨hx, hb, hr, hml, hown, ht, hlk, hA, hK⟩ := id C
  intro x2 x3 x4 x5 x6 mn ml mm mo r h H locs ls hP hD hS hl
  unfold J_M_sweep_94 at h
  refine lv_iload hx hb d_M_sweep_94 (lv_at hl 5 rfl) ?_
  refine lv_aload_n hx hb d_M_sweep_96 rfl (lv_at hl 0 rfl) ?_
  refine va_get (D := D) (ci := 3) (v := .int mn) (C := R_M) (T := F_M) (N := 13) hx hb ht iC_M hown hK hP 0 rfl rfl 1 (by decide) (ht _ ix_163) (fun _ h9 => h9) rfl d_M_sweep_97 ?_
  refine lv_icmp_ge (tgt := 145) hx hb d_M_sweep_100 (by decide) (fun c_1 => ?_) (fun c_1 => ?_)
  · have h := ite_T c_1 h
    refine lv_iinc (v := x4 + 1) (lv' := [(4, .int (x4 + 1)), (0, .ref (a 20)), (2, .int x2), (3, .int x3), (5, .int x5), (6, .int x6)]) hx hb d_M_sweep_145 hl (k := 3) rfl rfl (by decide) rfl (fun ls hl => ?_)
    refine lv_goto (tgt := 55) hx hb d_M_sweep_148 (by decide) ?_
    exact hrec55 _ _ _ _ _ _ _ _ h _ _ _ hP hD hS (lv_sub hl [1, 2, 3, 0] rfl)
  · have h := ite_F c_1 h
    refine lv_aload_n hx hb d_M_sweep_103 rfl (lv_at hl 0 rfl) ?_
    refine va_get (D := D) (ci := 3) (v := .ref (a 25)) (C := R_M) (T := F_M) (N := 13) hx hb ht iC_M hown hK hP 0 rfl rfl 7 (by decide) (ht _ ix_212) (fun _ h9 => h9) rfl d_M_sweep_104 ?_
    refine lv_iload hx hb d_M_sweep_107 (lv_at hl 5 rfl) ?_
    obtain ⟨g_2, h⟩ := gd_some h
    refine va_zald hx hb hK hP 5 4 rfl rfl (inb_in g_2) d_M_sweep_109 ?_
    refine lv_if_eq (tgt := 117) hx hb d_M_sweep_110 (by decide) (fun c_3 => ?_) (fun c_3 => ?_)
    · have h := ite_T c_3 h
      refine lv_aload_n hx hb d_M_sweep_117 rfl (lv_at hl 0 rfl) ?_
      refine lv_iload hx hb d_M_sweep_118 (lv_at hl 5 rfl) ?_
      obtain ⟨v_4, e_4, h⟩ := bd_some h
      refine go_Vi (r := v_4) (As := [.int x6]) (rest := []) (wc := (wM a k mh mn mc ms ml mm mt mo mk mr my mb mf)) (wr := []) (w1 := (wM a k mh mn mc ms ml mm mt mo mk mr my mb mf)) (w2 := (wM a k mh mn mc ms ml mm mt mo mk mr my mb mf)) (tc := [(k 21, .int), (k 22, .int), (k 23, .int), (k 24, .boolean), (k 25, .boolean), (k 26, .long), (k 27, .int), (k 28, .long), (k 29, .int)]) hx hb hml hown ht (c_M_touching l D a k H.size x6 mh mn mc ms ml mm mt mo mk mr my mb mf v_4 e_4) g_M_95 ⟨rfl, rfl⟩ (n := 1) (by decide +kernel) ⟨(Nat.le_of_ble_eq_true rfl), (Nat.le_of_ble_eq_true rfl)⟩ hP hD hK hS hA ⟨Nat.zero_le _, Nat.zero_le _⟩ [0, 1, 2, 3, 4, 5, 6, 7, 8, 9] [] [0, 1, 2, 3, 4, 5, 6, 7, 8] [0, 1, 2, 3, 4, 5, 6, 7, 8, 9] rfl rfl rfl rfl (by decide) (by decide) (by decide) rfl (by decide) 0 rfl rfl rfl rfl rfl hl.1 (Nat.le_of_ble_eq_true rfl) d_M_sweep_120 (fun H locs hP hD hS => ?_)
      exact (k_M_sweep_123 C hrec55 hrec94) _ _ _ _ _ _ _ _ _ _ _ h _ _ _ hP hD hS (lv_sub hl [0, 1, 2, 3, 4, 5] rfl)
    · have h := ite_F c_3 h
      refine lv_iconst (v := (-1)) hx hb d_M_sweep_113 (by decide) ?_
      refine lv_goto (tgt := 123) hx hb d_M_sweep_114 (by decide) ?_
      exact (k_M_sweep_123 C hrec55 hrec94) _ _ _ _ _ _ _ _ _ _ _ h _ _ _ hP hD hS (lv_sub hl [0, 1, 2, 3, 4, 5] rfl)
theorem k_M_sweep_94_L {p : Program} {l : Launch} {e : Env} {s : State} {m : MethodId} {args : Array Value} {below : List Frame} {meth : Method} {c : Code} {D : va_G} {A : Nat → Prop} {a : Nat → Nat} {k : Nat → ClassId} {mh : Int32} {mc : Int32} {ms : Nat → Int32} {mt : Nat → Int32} {mk : Int32} {mr : Nat → Int64} {my : Nat → Int32} {mb : Nat → Int64} {mf : Nat → Int32} {rec55 : Int32 → Int32 → Int32 → Int32 → (Nat → Int32) → (Nat → Int32) → (Nat → Int32) → Option (Int32 × (Nat → Int32) × (Nat → Int32))} (C : cx D [(k 21, .int), (k 22, .int), (k 23, .int), (k 24, .boolean), (k 25, .boolean), (k 26, .long), (k 27, .int), (k 28, .long), (k 29, .int)] R_M b_M_sweep 8 (some .int) A p s m args meth c) (hrec55 : H_M_sweep_55 p l e s m args below meth c D A a k mh mc ms mt mk mr my mb mf rec55) : ∀ n : Nat, H_M_sweep_94 p l e s m args below meth c D A a k mh mc ms mt mk mr my mb mf (L_M_sweep_94 rec55 n)
  | 0 => fun _ _ _ _ _ _ _ _ _ _ h => nomatch h
  | n + 1 => k_M_sweep_94 C hrec55 (k_M_sweep_94_L C hrec55 n)
set_option maxHeartbeats 4000000 in
set_option maxRecDepth 100000 in
theorem k_M_sweep_55 {p : Program} {l : Launch} {e : Env} {s : State} {m : MethodId} {args : Array Value} {below : List Frame} {meth : Method} {c : Code} {D : va_G} {A : Nat → Prop} {a : Nat → Nat} {k : Nat → ClassId} {mh : Int32} {mc : Int32} {ms : Nat → Int32} {mt : Nat → Int32} {mk : Int32} {mr : Nat → Int64} {my : Nat → Int32} {mb : Nat → Int64} {mf : Nat → Int32} {rec55 : Int32 → Int32 → Int32 → Int32 → (Nat → Int32) → (Nat → Int32) → (Nat → Int32) → Option (Int32 × (Nat → Int32) × (Nat → Int32))} (C : cx D [(k 21, .int), (k 22, .int), (k 23, .int), (k 24, .boolean), (k 25, .boolean), (k 26, .long), (k 27, .int), (k 28, .long), (k 29, .int)] R_M b_M_sweep 8 (some .int) A p s m args meth c) (hrec55 : H_M_sweep_55 p l e s m args below meth c D A a k mh mc ms mt mk mr my mb mf rec55) : H_M_sweep_55 p l e s m args below meth c D A a k mh mc ms mt mk mr my mb mf (J_M_sweep_55 rec55) := by
  obtain ⟨hx, hb, hr, hml, hown, ht, hlk, hA, hK⟩ := id C
  intro x2 x3 x4 mn ml mm mo r h H locs ls hP hD hS hl
  unfold J_M_sweep_55 at h
  refine lv_iload hx hb d_M_sweep_55 (lv_at hl 3 rfl) ?_
  refine lv_aload_n hx hb d_M_sweep_57 rfl (lv_at hl 0 rfl) ?_
  refine va_get (D := D) (ci := 3) (v := .int mn) (C := R_M) (T := F_M) (N := 13) hx hb ht iC_M hown hK hP 0 rfl rfl 1 (by decide) (ht _ ix_163) (fun _ h9 => h9) rfl d_M_sweep_58 ?_
  refine lv_icmp_ge (tgt := 151) hx hb d_M_sweep_61 (by decide) (fun c_1 => ?_) (fun c_1 => ?_)
  · have h := ite_T c_1 h
    refine lv_iload_n hx hb d_M_sweep_151 rfl (lv_at hl 1 rfl) ?_
    cases h
    exact W.iret hx hb hr (fun t ht hW => ⟨⟨_, (), rfl, rfl, by rw [ht]; exact hP, va_K.moved hW.alike hK, hD⟩, hS.F ht⟩) hS.2.2 d_M_sweep_152 hlk
  · have h := ite_F c_1 h
    refine lv_aload_n hx hb d_M_sweep_64 rfl (lv_at hl 0 rfl) ?_
    refine va_get (D := D) (ci := 3) (v := .ref (a 25)) (C := R_M) (T := F_M) (N := 13) hx hb ht iC_M hown hK hP 0 rfl rfl 7 (by decide) (ht _ ix_212) (fun _ h9 => h9) rfl d_M_sweep_65 ?_
    refine lv_iload_n hx hb d_M_sweep_68 rfl (lv_at hl 2 rfl) ?_
    refine lv_iconst (v := 1) hx hb d_M_sweep_69 (by decide) ?_
    obtain ⟨g_2, h⟩ := gd_some h
    refine va_zast hx hb hK hP hD hS 5 4 rfl rfl (inb_in g_2) d_M_sweep_70 (fun H locs hP hD hS => ?_)
    have hP : va_P D classes (wM a k mh mn mc ms ml mm mt (upd mo x3.toNatClampNeg (vp_nar .boolean (1 : Int32))) mk mr my mb mf) H := hP
    have hD : va_D A (wM a k mh mn mc ms ml mm mt (upd mo x3.toNatClampNeg (vp_nar .boolean (1 : Int32))) mk mr my mb mf) := hD
    refine lv_aload_n hx hb d_M_sweep_71 rfl (lv_at hl 0 rfl) ?_
    obtain ⟨v_3, e_3, h⟩ := bd_some h
    refine go_Vi (r := v_3) (As := []) (rest := []) (wc := (wM a k mh mn mc ms ml mm mt (upd mo x3.toNatClampNeg (vp_nar .boolean (1 : Int32))) mk mr my mb mf)) (wr := []) (w1 := (wM a k mh mn mc ms ml mm mt (upd mo x3.toNatClampNeg (vp_nar .boolean (1 : Int32))) mk mr my mb mf)) (w2 := (wM a k mh mn mc ms ml mm mt (upd mo x3.toNatClampNeg (vp_nar .boolean (1 : Int32))) mk mr my mb mf)) (tc := [(k 21, .int), (k 22, .int), (k 23, .int), (k 24, .boolean), (k 25, .boolean), (k 26, .long), (k 27, .int), (k 28, .long), (k 29, .int)]) hx hb hml hown ht (c_M_open l D a k H.size mh mn mc ms ml mm mt (upd mo x3.toNatClampNeg (vp_nar .boolean (1 : Int32))) mk mr my mb mf v_3 e_3) g_M_92 ⟨rfl, rfl⟩ (n := 0) (by decide +kernel) ⟨(Nat.le_of_ble_eq_true rfl), (Nat.le_of_ble_eq_true rfl)⟩ hP hD hK hS hA ⟨Nat.zero_le _, Nat.zero_le _⟩ [0, 1, 2, 3, 4, 5, 6, 7, 8, 9] [] [0, 1, 2, 3, 4, 5, 6, 7, 8] [0, 1, 2, 3, 4, 5, 6, 7, 8, 9] rfl rfl rfl rfl (by decide) (by decide) (by decide) rfl (by decide) 0 rfl rfl rfl rfl rfl hl.1 (Nat.le_of_ble_eq_true rfl) d_M_sweep_72 (fun H locs hP hD hS => ?_)
    refine lv_iload_n hx hb d_M_sweep_75 rfl (lv_at hl 1 rfl) ?_
    refine lv_icmp_le (tgt := 86) hx hb d_M_sweep_76 (by decide) (fun c_4 => ?_) (fun c_4 => ?_)
    · have h := ite_T c_4 h
      refine lv_iload_n hx hb d_M_sweep_86 rfl (lv_at hl 1 rfl) ?_
      refine lv_istore_n (lv' := [(2, .int x2), (0, .ref (a 20)), (3, .int x3), (4, .int x4)]) hx hb d_M_sweep_87 rfl hl (by decide) rfl (fun ls hl => ?_)
      refine lv_iconst (v := (-1)) hx hb d_M_sweep_88 (by decide) ?_
      refine lv_istore (lv' := [(5, .int (-1 : Int32)), (2, .int x2), (0, .ref (a 20)), (3, .int x3), (4, .int x4)]) hx hb d_M_sweep_89 hl (by decide) rfl (fun ls hl => ?_)
      refine lv_iconst (v := 0) hx hb d_M_sweep_91 (by decide) ?_
      refine lv_istore (lv' := [(6, .int (0 : Int32)), (5, .int (-1 : Int32)), (2, .int x2), (0, .ref (a 20)), (3, .int x3), (4, .int x4)]) hx hb d_M_sweep_92 hl (by decide) rfl (fun ls hl => ?_)
      exact (k_M_sweep_94_L C hrec55 fu) _ _ _ _ _ _ _ _ _ _ h _ _ _ hP hD hS (lv_sub hl [3, 2, 4, 5, 1, 0] rfl)
    · have h := ite_F c_4 h
      refine lv_aload_n hx hb d_M_sweep_79 rfl (lv_at hl 0 rfl) ?_
      obtain ⟨v_5, e_5, h⟩ := bd_some h
      refine go_Vi (r := v_5) (As := []) (rest := []) (wc := (wM a k mh mn mc ms ml mm mt (upd mo x3.toNatClampNeg (vp_nar .boolean (1 : Int32))) mk mr my mb mf)) (wr := []) (w1 := (wM a k mh mn mc ms ml mm mt (upd mo x3.toNatClampNeg (vp_nar .boolean (1 : Int32))) mk mr my mb mf)) (w2 := (wM a k mh mn mc ms ml mm mt (upd mo x3.toNatClampNeg (vp_nar .boolean (1 : Int32))) mk mr my mb mf)) (tc := [(k 21, .int), (k 22, .int), (k 23, .int), (k 24, .boolean), (k 25, .boolean), (k 26, .long), (k 27, .int), (k 28, .long), (k 29, .int)]) hx hb hml hown ht (c_M_open l D a k H.size mh mn mc ms ml mm mt (upd mo x3.toNatClampNeg (vp_nar .boolean (1 : Int32))) mk mr my mb mf v_5 e_5) g_M_92 ⟨rfl, rfl⟩ (n := 0) (by decide +kernel) ⟨(Nat.le_of_ble_eq_true rfl), (Nat.le_of_ble_eq_true rfl)⟩ hP hD hK hS hA ⟨Nat.zero_le _, Nat.zero_le _⟩ [0, 1, 2, 3, 4, 5, 6, 7, 8, 9] [] [0, 1, 2, 3, 4, 5, 6, 7, 8] [0, 1, 2, 3, 4, 5, 6, 7, 8, 9] rfl rfl rfl rfl (by decide) (by decide) (by decide) rfl (by decide) 0 rfl rfl rfl rfl rfl hl.1 (Nat.le_of_ble_eq_true rfl) d_M_sweep_80 (fun H locs hP hD hS => ?_)
      refine lv_goto (tgt := 87) hx hb d_M_sweep_83 (by decide) ?_
      refine lv_istore_n (lv' := [(2, .int v_5), (0, .ref (a 20)), (3, .int x3), (4, .int x4)]) hx hb d_M_sweep_87 rfl hl (by decide) rfl (fun ls hl => ?_)
      refine lv_iconst (v := (-1)) hx hb d_M_sweep_88 (by decide) ?_
      refine lv_istore (lv' := [(5, .int (-1 : Int32)), (2, .int v_5), (0, .ref (a 20)), (3, .int x3), (4, .int x4)]) hx hb d_M_sweep_89 hl (by decide) rfl (fun ls hl => ?_)
      refine lv_iconst (v := 0) hx hb d_M_sweep_91 (by decide) ?_
      refine lv_istore (lv' := [(6, .int (0 : Int32)), (5, .int (-1 : Int32)), (2, .int v_5), (0, .ref (a 20)), (3, .int x3), (4, .int x4)]) hx hb d_M_sweep_92 hl (by decide) rfl (fun ls hl => ?_)
      exact (k_M_sweep_94_L C hrec55 fu) _ _ _ _ _ _ _ _ _ _ h _ _ _ hP hD hS (lv_sub hl [3, 2, 4, 5, 1, 0] rfl)
theorem k_M_sweep_55_L {p : Program} {l : Launch} {e : Env} {s : State} {m : MethodId} {args : Array Value} {below : List Frame} {meth : Method} {c : Code} {D : va_G} {A : Nat → Prop} {a : Nat → Nat} {k : Nat → ClassId} {mh : Int32} {mc : Int32} {ms : Nat → Int32} {mt : Nat → Int32} {mk : Int32} {mr : Nat → Int64} {my : Nat → Int32} {mb : Nat → Int64} {mf : Nat → Int32} (C : cx D [(k 21, .int), (k 22, .int), (k 23, .int), (k 24, .boolean), (k 25, .boolean), (k 26, .long), (k 27, .int), (k 28, .long), (k 29, .int)] R_M b_M_sweep 8 (some .int) A p s m args meth c) : ∀ n : Nat, H_M_sweep_55 p l e s m args below meth c D A a k mh mc ms mt mk mr my mb mf (L_M_sweep_55 n)
  | 0 => fun _ _ _ _ _ _ _ _ h => nomatch h
  | n + 1 => k_M_sweep_55 C (k_M_sweep_55_L C n)
set_option maxHeartbeats 4000000 in
set_option maxRecDepth 100000 in
theorem k_M_sweep_27 {p : Program} {l : Launch} {e : Env} {s : State} {m : MethodId} {args : Array Value} {below : List Frame} {meth : Method} {c : Code} {D : va_G} {A : Nat → Prop} {a : Nat → Nat} {k : Nat → ClassId} {mh : Int32} {mc : Int32} {ms : Nat → Int32} {mt : Nat → Int32} {mk : Int32} {mr : Nat → Int64} {my : Nat → Int32} {mb : Nat → Int64} {mf : Nat → Int32} {rec27 : Int32 → Int32 → Int32 → (Nat → Int32) → (Nat → Int32) → (Nat → Int32) → Option (Int32 × (Nat → Int32) × (Nat → Int32))} (C : cx D [(k 21, .int), (k 22, .int), (k 23, .int), (k 24, .boolean), (k 25, .boolean), (k 26, .long), (k 27, .int), (k 28, .long), (k 29, .int)] R_M b_M_sweep 8 (some .int) A p s m args meth c) (hrec27 : H_M_sweep_27 p l e s m args below meth c D A a k mh mc ms mt mk mr my mb mf rec27) : H_M_sweep_27 p l e s m args below meth c D A a k mh mc ms mt mk mr my mb mf (J_M_sweep_27 rec27) := by
  obtain ⟨hx, hb, hr, hml, hown, ht, hlk, hA, hK⟩ := id C
  intro x1 x2 mn ml mm mo r h H locs ls hP hD hS hl
  unfold J_M_sweep_27 at h
  refine lv_iload_n hx hb d_M_sweep_27 rfl (lv_at hl 2 rfl) ?_
  refine lv_aload_n hx hb d_M_sweep_28 rfl (lv_at hl 0 rfl) ?_
  refine va_get (D := D) (ci := 3) (v := .int mn) (C := R_M) (T := F_M) (N := 13) hx hb ht iC_M hown hK hP 0 rfl rfl 1 (by decide) (ht _ ix_163) (fun _ h9 => h9) rfl d_M_sweep_29 ?_
  refine lv_icmp_ge (tgt := 48) hx hb d_M_sweep_32 (by decide) (fun c_1 => ?_) (fun c_1 => ?_)
  · have h := ite_T c_1 h
    refine lv_iconst (v := 0) hx hb d_M_sweep_48 (by decide) ?_
    refine lv_istore_n (lv' := [(2, .int (0 : Int32)), (0, .ref (a 20)), (1, .int x1)]) hx hb d_M_sweep_49 rfl hl (by decide) rfl (fun ls hl => ?_)
    refine lv_iload_n hx hb d_M_sweep_50 rfl (lv_at hl 2 rfl) ?_
    refine lv_istore_n (lv' := [(3, .int x1), (2, .int (0 : Int32)), (0, .ref (a 20)), (1, .int x1)]) hx hb d_M_sweep_51 rfl hl (by decide) rfl (fun ls hl => ?_)
    refine lv_iconst (v := 0) hx hb d_M_sweep_52 (by decide) ?_
    refine lv_istore (lv' := [(4, .int (0 : Int32)), (3, .int x1), (2, .int (0 : Int32)), (0, .ref (a 20)), (1, .int x1)]) hx hb d_M_sweep_53 hl (by decide) rfl (fun ls hl => ?_)
    exact (k_M_sweep_55_L C fu) _ _ _ _ _ _ _ _ h _ _ _ hP hD hS (lv_sub hl [3, 2, 1, 0] rfl)
  · have h := ite_F c_1 h
    refine lv_aload_n hx hb d_M_sweep_35 rfl (lv_at hl 0 rfl) ?_
    refine va_get (D := D) (ci := 3) (v := .ref (a 25)) (C := R_M) (T := F_M) (N := 13) hx hb ht iC_M hown hK hP 0 rfl rfl 7 (by decide) (ht _ ix_212) (fun _ h9 => h9) rfl d_M_sweep_36 ?_
    refine lv_iload_n hx hb d_M_sweep_39 rfl (lv_at hl 2 rfl) ?_
    refine lv_iconst (v := 0) hx hb d_M_sweep_40 (by decide) ?_
    obtain ⟨g_2, h⟩ := gd_some h
    refine va_zast hx hb hK hP hD hS 5 4 rfl rfl (inb_in g_2) d_M_sweep_41 (fun H locs hP hD hS => ?_)
    have hP : va_P D classes (wM a k mh mn mc ms ml mm mt (upd mo x2.toNatClampNeg (vp_nar .boolean (0 : Int32))) mk mr my mb mf) H := hP
    have hD : va_D A (wM a k mh mn mc ms ml mm mt (upd mo x2.toNatClampNeg (vp_nar .boolean (0 : Int32))) mk mr my mb mf) := hD
    refine lv_iinc (v := x2 + 1) (lv' := [(2, .int (x2 + 1)), (0, .ref (a 20)), (1, .int x1)]) hx hb d_M_sweep_42 hl (k := 2) rfl rfl (by decide) rfl (fun ls hl => ?_)
    refine lv_goto (tgt := 27) hx hb d_M_sweep_45 (by decide) ?_
    exact hrec27 _ _ _ _ _ _ _ h _ _ _ hP hD hS (lv_sub hl [1, 2, 0] rfl)
theorem k_M_sweep_27_L {p : Program} {l : Launch} {e : Env} {s : State} {m : MethodId} {args : Array Value} {below : List Frame} {meth : Method} {c : Code} {D : va_G} {A : Nat → Prop} {a : Nat → Nat} {k : Nat → ClassId} {mh : Int32} {mc : Int32} {ms : Nat → Int32} {mt : Nat → Int32} {mk : Int32} {mr : Nat → Int64} {my : Nat → Int32} {mb : Nat → Int64} {mf : Nat → Int32} (C : cx D [(k 21, .int), (k 22, .int), (k 23, .int), (k 24, .boolean), (k 25, .boolean), (k 26, .long), (k 27, .int), (k 28, .long), (k 29, .int)] R_M b_M_sweep 8 (some .int) A p s m args meth c) : ∀ n : Nat, H_M_sweep_27 p l e s m args below meth c D A a k mh mc ms mt mk mr my mb mf (L_M_sweep_27 n)
  | 0 => fun _ _ _ _ _ _ _ h => nomatch h
  | n + 1 => k_M_sweep_27 C (k_M_sweep_27_L C n)
set_option maxHeartbeats 4000000 in
set_option maxRecDepth 100000 in
theorem k_M_sweep_0 {p : Program} {l : Launch} {e : Env} {s : State} {m : MethodId} {args : Array Value} {below : List Frame} {meth : Method} {c : Code} {D : va_G} {A : Nat → Prop} {a : Nat → Nat} {k : Nat → ClassId} {mh : Int32} {mc : Int32} {ms : Nat → Int32} {mt : Nat → Int32} {mk : Int32} {mr : Nat → Int64} {my : Nat → Int32} {mb : Nat → Int64} {mf : Nat → Int32} (C : cx D [(k 21, .int), (k 22, .int), (k 23, .int), (k 24, .boolean), (k 25, .boolean), (k 26, .long), (k 27, .int), (k 28, .long), (k 29, .int)] R_M b_M_sweep 8 (some .int) A p s m args meth c) : H_M_sweep_0 p l e s m args below meth c D A a k mh mc ms mt mk mr my mb mf (J_M_sweep_0) := by
  obtain ⟨hx, hb, hr, hml, hown, ht, hlk, hA, hK⟩ := id C
  intro x1 mn ml mm mo r h H locs ls hP hD hS hl
  unfold J_M_sweep_0 at h
  refine lv_iload_n hx hb d_M_sweep_0 rfl (lv_at hl 1 rfl) ?_
  refine lv_if_lt (tgt := 19) hx hb d_M_sweep_1 (by decide) (fun c_1 => ?_) (fun c_1 => ?_)
  · have h := ite_T c_1 h
    refine lv_iconst (v := (-1)) hx hb d_M_sweep_19 (by decide) ?_
    cases h
    exact W.iret hx hb hr (fun t ht hW => ⟨⟨_, (), rfl, rfl, by rw [ht]; exact hP, va_K.moved hW.alike hK, hD⟩, hS.F ht⟩) hS.2.2 d_M_sweep_20 hlk
  · have h := ite_F c_1 h
    refine lv_iload_n hx hb d_M_sweep_4 rfl (lv_at hl 1 rfl) ?_
    refine lv_aload_n hx hb d_M_sweep_5 rfl (lv_at hl 0 rfl) ?_
    refine va_get (D := D) (ci := 3) (v := .int mn) (C := R_M) (T := F_M) (N := 13) hx hb ht iC_M hown hK hP 0 rfl rfl 1 (by decide) (ht _ ix_163) (fun _ h9 => h9) rfl d_M_sweep_6 ?_
    refine lv_icmp_ge (tgt := 19) hx hb d_M_sweep_9 (by decide) (fun c_2 => ?_) (fun c_2 => ?_)
    · have h := ite_T c_2 h
      refine lv_iconst (v := (-1)) hx hb d_M_sweep_19 (by decide) ?_
      cases h
      exact W.iret hx hb hr (fun t ht hW => ⟨⟨_, (), rfl, rfl, by rw [ht]; exact hP, va_K.moved hW.alike hK, hD⟩, hS.F ht⟩) hS.2.2 d_M_sweep_20 hlk
    · have h := ite_F c_2 h
      refine lv_aload_n hx hb d_M_sweep_12 rfl (lv_at hl 0 rfl) ?_
      obtain ⟨v_3, e_3, h⟩ := bd_some h
      refine go_Vi (r := v_3) (As := []) (rest := []) (wc := (wM a k mh mn mc ms ml mm mt mo mk mr my mb mf)) (wr := []) (w1 := (wM a k mh mn mc ms ml mm mt mo mk mr my mb mf)) (w2 := (wM a k mh mn mc ms ml mm mt mo mk mr my mb mf)) (tc := [(k 21, .int), (k 22, .int), (k 23, .int), (k 24, .boolean), (k 25, .boolean), (k 26, .long), (k 27, .int), (k 28, .long), (k 29, .int)]) hx hb hml hown ht (c_M_fault l D a k H.size mh mn mc ms ml mm mt mo mk mr my mb mf v_3 e_3) g_M_61 ⟨rfl, rfl⟩ (n := 0) (by decide +kernel) ⟨(Nat.le_of_ble_eq_true rfl), (Nat.le_of_ble_eq_true rfl)⟩ hP hD hK hS hA ⟨Nat.zero_le _, Nat.zero_le _⟩ [0, 1, 2, 3, 4, 5, 6, 7, 8, 9] [] [0, 1, 2, 3, 4, 5, 6, 7, 8] [0, 1, 2, 3, 4, 5, 6, 7, 8, 9] rfl rfl rfl rfl (by decide) (by decide) (by decide) rfl (by decide) 0 rfl rfl rfl rfl rfl hl.1 (Nat.le_of_ble_eq_true rfl) d_M_sweep_13 (fun H locs hP hD hS => ?_)
      refine lv_if_le (tgt := 21) hx hb d_M_sweep_16 (by decide) (fun c_4 => ?_) (fun c_4 => ?_)
      · have h := ite_T c_4 h
        refine lv_aload_n hx hb d_M_sweep_21 rfl (lv_at hl 0 rfl) ?_
        obtain ⟨v_5, e_5, h⟩ := bd_some h
        refine go_Vv (As := []) (rest := []) (wc := (wM a k mh mn mc ms ml mm mt mo mk mr my mb mf)) (wr := []) (w1 := (wM a k mh mn mc ms ml v_5 mt mo mk mr my mb mf)) (w2 := (wM a k mh mn mc ms ml v_5 mt mo mk mr my mb mf)) (tc := [(k 21, .int), (k 22, .int), (k 23, .int), (k 24, .boolean), (k 25, .boolean), (k 26, .long), (k 27, .int), (k 28, .long), (k 29, .int)]) hx hb hml hown ht (c_M_findMates l D a k H.size mh mn mc ms ml mm mt mo mk mr my mb mf v_5 e_5) g_M_65 ⟨rfl, rfl⟩ (n := 0) (by decide +kernel) ⟨(Nat.le_of_ble_eq_true rfl), (Nat.le_of_ble_eq_true rfl)⟩ hP hD hK hS hA ⟨Nat.zero_le _, Nat.zero_le _⟩ [0, 1, 2, 3, 4, 5, 6, 7, 8, 9] [] [0, 1, 2, 3, 4, 5, 6, 7, 8] [0, 1, 2, 3, 4, 5, 6, 7, 8, 9] rfl rfl rfl rfl (by decide) (by decide) (by decide) rfl (by decide) 0 rfl rfl rfl rfl rfl hl.1 (Nat.le_of_ble_eq_true rfl) d_M_sweep_22 (fun H locs hP hD hS => ?_)
        refine lv_iconst (v := 0) hx hb d_M_sweep_25 (by decide) ?_
        refine lv_istore_n (lv' := [(2, .int (0 : Int32)), (0, .ref (a 20)), (1, .int x1)]) hx hb d_M_sweep_26 rfl hl (by decide) rfl (fun ls hl => ?_)
        exact (k_M_sweep_27_L C fu) _ _ _ _ _ _ _ h _ _ _ hP hD hS (lv_sub hl [1, 2, 0] rfl)
      · have h := ite_F c_4 h
        refine lv_iconst (v := (-1)) hx hb d_M_sweep_19 (by decide) ?_
        cases h
        exact W.iret hx hb hr (fun t ht hW => ⟨⟨_, (), rfl, rfl, by rw [ht]; exact hP, va_K.moved hW.alike hK, hD⟩, hS.F ht⟩) hS.2.2 d_M_sweep_20 hlk
set_option maxRecDepth 20000 in
theorem c_M_sweep (l : Launch) (D : va_G) (a : Nat → Nat) (k : Nat → ClassId) (sz : Nat) (x1 : Int32) (mh : Int32) (mn : Int32) (mc : Int32) (ms : Nat → Int32) (ml : Nat → Int32) (mm : Nat → Int32) (mt : Nat → Int32) (mo : Nat → Int32) (mk : Int32) (mr : Nat → Int64) (my : Nat → Int32) (mb : Nat → Int64) (mf : Nat → Int32) (r : Int32 × (Nat → Int32) × (Nat → Int32)) (h : F_M_sweep x1 mn ml mm mo = some r) : Met l y_M_sweep (Cond.code y_M_sweep b_M_sweep 8 (some .int) :: lw_g) (rm_M_sweep) (va_Pc [.ref (a 20), .int x1] (pcW D [(k 21, .int), (k 22, .int), (k 23, .int), (k 24, .boolean), (k 25, .boolean), (k 26, .long), (k 27, .int), (k 28, .long), (k 29, .int)] (wM a k mh mn mc ms ml mm mt mo mk mr my mb mf) sz)) (qc_M_sweep D (va_A (wM a k mh mn mc ms ml mm mt mo mk mr my mb mf) sz) a k mh mn mc ms ml mt mk mr my mb mf r) 0 0 (va_A (wM a k mh mn mc ms ml mm mt mo mk mr my mb mf) sz) := by
  refine Met.ofW (cc := b_M_sweep) (maxL := 8) (ret := (some .int)) (by decide) rfl ?_
  intro p e s m args below meth c s₁ B hml hv
  obtain ⟨rfl, hsz, hP, hK, hD0⟩ := hv
  have hts := atoms_spec (ws := Cond.code y_M_sweep b_M_sweep 8 (some .int) :: lw_g) B.pre
  subst hsz
  have hD := hD0.self (sz := s.heap.size)
  have hl := lv_entry ([.ref (a 20), .int x1]) (n := 8) (Nat.le_of_ble_eq_true rfl)
  rw [lg_entry_eq]
  generalize (lg_sl ([.ref (a 20), .int x1]) ++ List.replicate (8 - (lg_sl ([.ref (a 20), .int x1])).length) Slot.unset).toArray = ls at hl ⊢
  exact k_M_sweep_0 ⟨B.exec, B.bytes, B.returns, hml, findClass_of_methodNamed B.named, fun w hw => hts w (List.mem_cons_of_mem _ hw), B.notSynchronized, fun q h => Or.inr h, hK⟩ _ _ _ _ _ _ h _ _ _ hP hD va_S.rf hl

def rm_M_look : Room := { frames := 1, cells := 0, slots := 0, locals := 22 }
def qc_M_look (D : va_G) (A : Nat → Prop) (a : Nat → Nat) (k : Nat → ClassId) (mh : Int32) (mn : Int32) (mc : Int32) (ms : Nat → Int32) (ml : Nat → Int32) (mm : Nat → Int32) (mt : Nat → Int32) (mo : Nat → Int32) (mk : Int32) (mr : Nat → Int64) (my : Nat → Int32) (mb : Nat → Int64) (mf : Nat → Int32) (r : Int32) : Array Value → State → Outcome → State → Prop := va_Qi (fun (r1 : Int32) (_ : Unit) => r1 = r) (poW D [(k 21, .int), (k 22, .int), (k 23, .int), (k 24, .boolean), (k 25, .boolean), (k 26, .long), (k 27, .int), (k 28, .long), (k 29, .int)] (wM a k mh mn mc ms ml mm mt mo mk mr my mb mf) A) A
def J_M_look_0 (x1 : Int32) (x2 : Int32) (mn : Int32) (mc : Int32) (ms : Nat → Int32) (ml : Nat → Int32) : Option (Int32) :=
  (if x1 = (-1 : Int32) then (if x2 = 0 then some (mn) else (if x2 = (1 : Int32) then some (mc) else (if x2 = (2 : Int32) then (Option.bind (F_M_signs mn ms) (fun v_12 => some (v_12))) else some ((-1000 : Int32))))) else (if x1 < 0 then some ((-1000 : Int32)) else (if mn ≤ x1 then some ((-1000 : Int32)) else (if x2 < 0 then some ((-1000 : Int32)) else (if x2 ≤ (4 : Int32) then (if x2 = (4 : Int32) then (if inb x1 10 then some ((ms x1.toNatClampNeg)) else none) else (if inb (((4 : Int32) * x1) + x2) 40 then some ((ml (((4 : Int32) * x1) + x2).toNatClampNeg)) else none)) else some ((-1000 : Int32)))))))
def F_M_look (x1 : Int32) (x2 : Int32) (mn : Int32) (mc : Int32) (ms : Nat → Int32) (ml : Nat → Int32) : Option (Int32) := J_M_look_0 x1 x2 mn mc ms ml
def H_M_look_0 (p : Program) (l : Launch) (e : Env) (s : State) (m : MethodId) (args : Array Value) (below : List Frame) (meth : Method) (c : Code) (D : va_G) (A : Nat → Prop) (a : Nat → Nat) (k : Nat → ClassId) (mh : Int32) (mm : Nat → Int32) (mt : Nat → Int32) (mo : Nat → Int32) (mk : Int32) (mr : Nat → Int64) (my : Nat → Int32) (mb : Nat → Int64) (mf : Nat → Int32) (f : Int32 → Int32 → Int32 → Int32 → (Nat → Int32) → (Nat → Int32) → Option (Int32)) : Prop := ∀ (x1 : Int32) (x2 : Int32) (mn : Int32) (mc : Int32) (ms : Nat → Int32) (ml : Nat → Int32) (r : Int32), f x1 x2 mn mc ms ml = some r → ∀ (H : Heap) (locs : List Loc) (ls : Array Slot), va_P D classes (wM a k mh mn mc ms ml mm mt mo mk mr my mb mf) H → va_D A (wM a k mh mn mc ms ml mm mt mo mk mr my mb mf) → va_S A s.heap H locs → lv_has ls 3 [(0, .ref (a 20)), (1, .int x1), (2, .int x2)] → W p l e (rm_M_look) s m args below meth c H locs 0 0 (MQ below (qc_M_look D A a k mh mn mc ms ml mm mt mo mk mr my mb mf r) args s 0 0 A) (F0 m 0 ls [])
set_option maxHeartbeats 4000000 in
set_option maxRecDepth 100000 in
theorem k_M_look_0 {p : Program} {l : Launch} {e : Env} {s : State} {m : MethodId} {args : Array Value} {below : List Frame} {meth : Method} {c : Code} {D : va_G} {A : Nat → Prop} {a : Nat → Nat} {k : Nat → ClassId} {mh : Int32} {mm : Nat → Int32} {mt : Nat → Int32} {mo : Nat → Int32} {mk : Int32} {mr : Nat → Int64} {my : Nat → Int32} {mb : Nat → Int64} {mf : Nat → Int32} (C : cx D [(k 21, .int), (k 22, .int), (k 23, .int), (k 24, .boolean), (k 25, .boolean), (k 26, .long), (k 27, .int), (k 28, .long), (k 29, .int)] R_M b_M_look 3 (some .int) A p s m args meth c) : H_M_look_0 p l e s m args below meth c D A a k mh mm mt mo mk mr my mb mf (J_M_look_0) := by
  obtain ⟨hx, hb, hr, hml, hown, ht, hlk, hA, hK⟩ := id C
  intro x1 x2 mn mc ms ml r h H locs ls hP hD hS hl
  unfold J_M_look_0 at h
  refine lv_iload_n hx hb d_M_look_0 rfl (lv_at hl 1 rfl) ?_
  refine lv_iconst (v := (-1)) hx hb d_M_look_1 (by decide) ?_
  refine lv_icmp_ne (tgt := 44) hx hb d_M_look_2 (by decide) (fun c_1 => ?_) (fun c_1 => ?_)
  · have h := ite_F c_1 h
    refine lv_iload_n hx hb d_M_look_44 rfl (lv_at hl 1 rfl) ?_
    refine lv_if_lt (tgt := 65) hx hb d_M_look_45 (by decide) (fun c_2 => ?_) (fun c_2 => ?_)
    · have h := ite_T c_2 h
      refine lv_sipush (v := (-1000)) hx hb d_M_look_65 (by decide) ?_
      cases h
      exact W.iret hx hb hr (fun t ht hW => ⟨⟨_, (), rfl, rfl, by rw [ht]; exact hP, va_K.moved hW.alike hK, hD⟩, hS.F ht⟩) hS.2.2 d_M_look_68 hlk
    · have h := ite_F c_2 h
      refine lv_iload_n hx hb d_M_look_48 rfl (lv_at hl 1 rfl) ?_
      refine lv_aload_n hx hb d_M_look_49 rfl (lv_at hl 0 rfl) ?_
      refine va_get (D := D) (ci := 3) (v := .int mn) (C := R_M) (T := F_M) (N := 13) hx hb ht iC_M hown hK hP 0 rfl rfl 1 (by decide) (ht _ ix_163) (fun _ h9 => h9) rfl d_M_look_50 ?_
      refine lv_icmp_ge (tgt := 65) hx hb d_M_look_53 (by decide) (fun c_3 => ?_) (fun c_3 => ?_)
      · have h := ite_T c_3 h
        refine lv_sipush (v := (-1000)) hx hb d_M_look_65 (by decide) ?_
        cases h
        exact W.iret hx hb hr (fun t ht hW => ⟨⟨_, (), rfl, rfl, by rw [ht]; exact hP, va_K.moved hW.alike hK, hD⟩, hS.F ht⟩) hS.2.2 d_M_look_68 hlk
      · have h := ite_F c_3 h
        refine lv_iload_n hx hb d_M_look_56 rfl (lv_at hl 2 rfl) ?_
        refine lv_if_lt (tgt := 65) hx hb d_M_look_57 (by decide) (fun c_4 => ?_) (fun c_4 => ?_)
        · have h := ite_T c_4 h
          refine lv_sipush (v := (-1000)) hx hb d_M_look_65 (by decide) ?_
          cases h
          exact W.iret hx hb hr (fun t ht hW => ⟨⟨_, (), rfl, rfl, by rw [ht]; exact hP, va_K.moved hW.alike hK, hD⟩, hS.F ht⟩) hS.2.2 d_M_look_68 hlk
        · have h := ite_F c_4 h
          refine lv_iload_n hx hb d_M_look_60 rfl (lv_at hl 2 rfl) ?_
          refine lv_iconst (v := 4) hx hb d_M_look_61 (by decide) ?_
          refine lv_icmp_le (tgt := 69) hx hb d_M_look_62 (by decide) (fun c_5 => ?_) (fun c_5 => ?_)
          · have h := ite_T c_5 h
            refine lv_iload_n hx hb d_M_look_69 rfl (lv_at hl 2 rfl) ?_
            refine lv_iconst (v := 4) hx hb d_M_look_70 (by decide) ?_
            refine lv_icmp_ne (tgt := 83) hx hb d_M_look_71 (by decide) (fun c_6 => ?_) (fun c_6 => ?_)
            · have h := ite_F c_6 h
              refine lv_aload_n hx hb d_M_look_83 rfl (lv_at hl 0 rfl) ?_
              refine va_get (D := D) (ci := 3) (v := .ref (a 22)) (C := R_M) (T := F_M) (N := 13) hx hb ht iC_M hown hK hP 0 rfl rfl 4 (by decide) (ht _ ix_164) (fun _ h9 => h9) rfl d_M_look_84 ?_
              refine lv_iconst (v := 4) hx hb d_M_look_87 (by decide) ?_
              refine lv_iload_n hx hb d_M_look_88 rfl (lv_at hl 1 rfl) ?_
              refine lv_imul hx hb d_M_look_89 ?_
              refine lv_iload_n hx hb d_M_look_90 rfl (lv_at hl 2 rfl) ?_
              refine lv_iadd hx hb d_M_look_91 ?_
              obtain ⟨g_7, h⟩ := gd_some h
              refine va_iald hx hb hK hP 2 1 rfl rfl (inb_in g_7) d_M_look_92 ?_
              cases h
              exact W.iret hx hb hr (fun t ht hW => ⟨⟨_, (), rfl, rfl, by rw [ht]; exact hP, va_K.moved hW.alike hK, hD⟩, hS.F ht⟩) hS.2.2 d_M_look_93 hlk
            · have h := ite_T c_6 h
              refine lv_aload_n hx hb d_M_look_74 rfl (lv_at hl 0 rfl) ?_
              refine va_get (D := D) (ci := 3) (v := .ref (a 21)) (C := R_M) (T := F_M) (N := 13) hx hb ht iC_M hown hK hP 0 rfl rfl 3 (by decide) (ht _ ix_199) (fun _ h9 => h9) rfl d_M_look_75 ?_
              refine lv_iload_n hx hb d_M_look_78 rfl (lv_at hl 1 rfl) ?_
              obtain ⟨g_8, h⟩ := gd_some h
              refine va_iald hx hb hK hP 1 0 rfl rfl (inb_in g_8) d_M_look_79 ?_
              refine lv_goto (tgt := 93) hx hb d_M_look_80 (by decide) ?_
              cases h
              exact W.iret hx hb hr (fun t ht hW => ⟨⟨_, (), rfl, rfl, by rw [ht]; exact hP, va_K.moved hW.alike hK, hD⟩, hS.F ht⟩) hS.2.2 d_M_look_93 hlk
          · have h := ite_F c_5 h
            refine lv_sipush (v := (-1000)) hx hb d_M_look_65 (by decide) ?_
            cases h
            exact W.iret hx hb hr (fun t ht hW => ⟨⟨_, (), rfl, rfl, by rw [ht]; exact hP, va_K.moved hW.alike hK, hD⟩, hS.F ht⟩) hS.2.2 d_M_look_68 hlk
  · have h := ite_T c_1 h
    refine lv_iload_n hx hb d_M_look_5 rfl (lv_at hl 2 rfl) ?_
    refine lv_if_ne (tgt := 16) hx hb d_M_look_6 (by decide) (fun c_9 => ?_) (fun c_9 => ?_)
    · have h := ite_F c_9 h
      refine lv_iload_n hx hb d_M_look_16 rfl (lv_at hl 2 rfl) ?_
      refine lv_iconst (v := 1) hx hb d_M_look_17 (by decide) ?_
      refine lv_icmp_ne (tgt := 28) hx hb d_M_look_18 (by decide) (fun c_10 => ?_) (fun c_10 => ?_)
      · have h := ite_F c_10 h
        refine lv_iload_n hx hb d_M_look_28 rfl (lv_at hl 2 rfl) ?_
        refine lv_iconst (v := 2) hx hb d_M_look_29 (by decide) ?_
        refine lv_icmp_ne (tgt := 40) hx hb d_M_look_30 (by decide) (fun c_11 => ?_) (fun c_11 => ?_)
        · have h := ite_F c_11 h
          refine lv_sipush (v := (-1000)) hx hb d_M_look_40 (by decide) ?_
          cases h
          exact W.iret hx hb hr (fun t ht hW => ⟨⟨_, (), rfl, rfl, by rw [ht]; exact hP, va_K.moved hW.alike hK, hD⟩, hS.F ht⟩) hS.2.2 d_M_look_43 hlk
        · have h := ite_T c_11 h
          refine lv_aload_n hx hb d_M_look_33 rfl (lv_at hl 0 rfl) ?_
          obtain ⟨v_12, e_12, h⟩ := bd_some h
          refine go_Vi (r := v_12) (As := []) (rest := []) (wc := (wM a k mh mn mc ms ml mm mt mo mk mr my mb mf)) (wr := []) (w1 := (wM a k mh mn mc ms ml mm mt mo mk mr my mb mf)) (w2 := (wM a k mh mn mc ms ml mm mt mo mk mr my mb mf)) (tc := [(k 21, .int), (k 22, .int), (k 23, .int), (k 24, .boolean), (k 25, .boolean), (k 26, .long), (k 27, .int), (k 28, .long), (k 29, .int)]) hx hb hml hown ht (c_M_signs l D a k H.size mh mn mc ms ml mm mt mo mk mr my mb mf v_12 e_12) g_M_81 ⟨rfl, rfl⟩ (n := 0) (by decide +kernel) ⟨(Nat.le_of_ble_eq_true rfl), (Nat.le_of_ble_eq_true rfl)⟩ hP hD hK hS hA ⟨Nat.zero_le _, Nat.zero_le _⟩ [0, 1, 2, 3, 4, 5, 6, 7, 8, 9] [] [0, 1, 2, 3, 4, 5, 6, 7, 8] [0, 1, 2, 3, 4, 5, 6, 7, 8, 9] rfl rfl rfl rfl (by decide) (by decide) (by decide) rfl (by decide) 0 rfl rfl rfl rfl rfl hl.1 (Nat.le_of_ble_eq_true rfl) d_M_look_34 (fun H locs hP hD hS => ?_)
          refine lv_goto (tgt := 43) hx hb d_M_look_37 (by decide) ?_
          cases h
          exact W.iret hx hb hr (fun t ht hW => ⟨⟨_, (), rfl, rfl, by rw [ht]; exact hP, va_K.moved hW.alike hK, hD⟩, hS.F ht⟩) hS.2.2 d_M_look_43 hlk
      · have h := ite_T c_10 h
        refine lv_aload_n hx hb d_M_look_21 rfl (lv_at hl 0 rfl) ?_
        refine va_get (D := D) (ci := 3) (v := .int mc) (C := R_M) (T := F_M) (N := 13) hx hb ht iC_M hown hK hP 0 rfl rfl 2 (by decide) (ht _ ix_171) (fun _ h9 => h9) rfl d_M_look_22 ?_
        refine lv_goto (tgt := 43) hx hb d_M_look_25 (by decide) ?_
        cases h
        exact W.iret hx hb hr (fun t ht hW => ⟨⟨_, (), rfl, rfl, by rw [ht]; exact hP, va_K.moved hW.alike hK, hD⟩, hS.F ht⟩) hS.2.2 d_M_look_43 hlk
    · have h := ite_T c_9 h
      refine lv_aload_n hx hb d_M_look_9 rfl (lv_at hl 0 rfl) ?_
      refine va_get (D := D) (ci := 3) (v := .int mn) (C := R_M) (T := F_M) (N := 13) hx hb ht iC_M hown hK hP 0 rfl rfl 1 (by decide) (ht _ ix_163) (fun _ h9 => h9) rfl d_M_look_10 ?_
      refine lv_goto (tgt := 43) hx hb d_M_look_13 (by decide) ?_
      cases h
      exact W.iret hx hb hr (fun t ht hW => ⟨⟨_, (), rfl, rfl, by rw [ht]; exact hP, va_K.moved hW.alike hK, hD⟩, hS.F ht⟩) hS.2.2 d_M_look_43 hlk
set_option maxRecDepth 20000 in
theorem c_M_look (l : Launch) (D : va_G) (a : Nat → Nat) (k : Nat → ClassId) (sz : Nat) (x1 : Int32) (x2 : Int32) (mh : Int32) (mn : Int32) (mc : Int32) (ms : Nat → Int32) (ml : Nat → Int32) (mm : Nat → Int32) (mt : Nat → Int32) (mo : Nat → Int32) (mk : Int32) (mr : Nat → Int64) (my : Nat → Int32) (mb : Nat → Int64) (mf : Nat → Int32) (r : Int32) (h : F_M_look x1 x2 mn mc ms ml = some r) : Met l y_M_look (Cond.code y_M_look b_M_look 3 (some .int) :: lw_g) (rm_M_look) (va_Pc [.ref (a 20), .int x1, .int x2] (pcW D [(k 21, .int), (k 22, .int), (k 23, .int), (k 24, .boolean), (k 25, .boolean), (k 26, .long), (k 27, .int), (k 28, .long), (k 29, .int)] (wM a k mh mn mc ms ml mm mt mo mk mr my mb mf) sz)) (qc_M_look D (va_A (wM a k mh mn mc ms ml mm mt mo mk mr my mb mf) sz) a k mh mn mc ms ml mm mt mo mk mr my mb mf r) 0 0 (va_A (wM a k mh mn mc ms ml mm mt mo mk mr my mb mf) sz) := by
  refine Met.ofW (cc := b_M_look) (maxL := 3) (ret := (some .int)) (by decide) rfl ?_
  intro p e s m args below meth c s₁ B hml hv
  obtain ⟨rfl, hsz, hP, hK, hD0⟩ := hv
  have hts := atoms_spec (ws := Cond.code y_M_look b_M_look 3 (some .int) :: lw_g) B.pre
  subst hsz
  have hD := hD0.self (sz := s.heap.size)
  have hl := lv_entry ([.ref (a 20), .int x1, .int x2]) (n := 3) (Nat.le_of_ble_eq_true rfl)
  rw [lg_entry_eq]
  generalize (lg_sl ([.ref (a 20), .int x1, .int x2]) ++ List.replicate (3 - (lg_sl ([.ref (a 20), .int x1, .int x2])).length) Slot.unset).toArray = ls at hl ⊢
  exact k_M_look_0 ⟨B.exec, B.bytes, B.returns, hml, findClass_of_methodNamed B.named, fun w hw => hts w (List.mem_cons_of_mem _ hw), B.notSynchronized, fun q h => Or.inr h, hK⟩ _ _ _ _ _ _ _ h _ _ _ hP hD va_S.rf hl

def rm_M_become : Room := { frames := 0, cells := 0, slots := 0, locals := 0 }
def qc_M_become (D : va_G) (A : Nat → Prop) (a : Nat → Nat) (k : Nat → ClassId) (mh : Int32) (mn : Int32) (mc : Int32) (ms : Nat → Int32) (mm : Nat → Int32) (mt : Nat → Int32) (mo : Nat → Int32) (mk : Int32) (mr : Nat → Int64) (my : Nat → Int32) (mb : Nat → Int64) (r : (Nat → Int32) × (Nat → Int32)) : Array Value → State → Outcome → State → Prop := va_Qv (fun (_ : Unit) => True) (poW D [(k 21, .int), (k 22, .int), (k 23, .int), (k 24, .boolean), (k 25, .boolean), (k 26, .long), (k 27, .int), (k 28, .long), (k 29, .int)] (wM a k mh mn mc ms r.1 mm mt mo mk mr my mb r.2) A) A
def J_M_become_46 (rec46 : Int32 → Int32 → Int32 → Int32 → (Nat → Int32) → (Nat → Int32) → Option ((Nat → Int32) × (Nat → Int32))) (x1 : Int32) (x2 : Int32) (x3 : Int32) (mn : Int32) (ml : Nat → Int32) (mf : Nat → Int32) : Option ((Nat → Int32) × (Nat → Int32)) :=
  (if (4 : Int32) ≤ x3 then some (ml, mf) else (if inb x3 4 then (if (mf x3.toNatClampNeg) = x1 then (if inb x3 4 then rec46 x1 x2 (x3 + 1) mn ml (upd mf x3.toNatClampNeg x2) else none) else (if inb x3 4 then (if inb x3 4 then rec46 x1 x2 (x3 + 1) mn ml (upd mf x3.toNatClampNeg (mf x3.toNatClampNeg)) else none) else none)) else none))
def L_M_become_46 : Nat → Int32 → Int32 → Int32 → Int32 → (Nat → Int32) → (Nat → Int32) → Option ((Nat → Int32) × (Nat → Int32))
  | 0 => fun _ _ _ _ _ _ => none
  | n + 1 => J_M_become_46 (L_M_become_46 n)
def J_M_become_2 (rec2 : Int32 → Int32 → Int32 → Int32 → (Nat → Int32) → (Nat → Int32) → Option ((Nat → Int32) × (Nat → Int32))) (x1 : Int32) (x2 : Int32) (x3 : Int32) (mn : Int32) (ml : Nat → Int32) (mf : Nat → Int32) : Option ((Nat → Int32) × (Nat → Int32)) :=
  (if ((4 : Int32) * mn) ≤ x3 then L_M_become_46 fu x1 x2 (0 : Int32) mn ml mf else (if inb x3 40 then (if (ml x3.toNatClampNeg) = x1 then (if inb x3 40 then rec2 x1 x2 (x3 + 1) mn (upd ml x3.toNatClampNeg x2) mf else none) else (if inb x3 40 then (if inb x3 40 then rec2 x1 x2 (x3 + 1) mn (upd ml x3.toNatClampNeg (ml x3.toNatClampNeg)) mf else none) else none)) else none))
def L_M_become_2 : Nat → Int32 → Int32 → Int32 → Int32 → (Nat → Int32) → (Nat → Int32) → Option ((Nat → Int32) × (Nat → Int32))
  | 0 => fun _ _ _ _ _ _ => none
  | n + 1 => J_M_become_2 (L_M_become_2 n)
def J_M_become_0 (x1 : Int32) (x2 : Int32) (mn : Int32) (ml : Nat → Int32) (mf : Nat → Int32) : Option ((Nat → Int32) × (Nat → Int32)) :=
  L_M_become_2 fu x1 x2 (0 : Int32) mn ml mf
def F_M_become (x1 : Int32) (x2 : Int32) (mn : Int32) (ml : Nat → Int32) (mf : Nat → Int32) : Option ((Nat → Int32) × (Nat → Int32)) := J_M_become_0 x1 x2 mn ml mf
def H_M_become_46 (p : Program) (l : Launch) (e : Env) (s : State) (m : MethodId) (args : Array Value) (below : List Frame) (meth : Method) (c : Code) (D : va_G) (A : Nat → Prop) (a : Nat → Nat) (k : Nat → ClassId) (mh : Int32) (mc : Int32) (ms : Nat → Int32) (mm : Nat → Int32) (mt : Nat → Int32) (mo : Nat → Int32) (mk : Int32) (mr : Nat → Int64) (my : Nat → Int32) (mb : Nat → Int64) (f : Int32 → Int32 → Int32 → Int32 → (Nat → Int32) → (Nat → Int32) → Option ((Nat → Int32) × (Nat → Int32))) : Prop := ∀ (x1 : Int32) (x2 : Int32) (x3 : Int32) (mn : Int32) (ml : Nat → Int32) (mf : Nat → Int32) (r : (Nat → Int32) × (Nat → Int32)), f x1 x2 x3 mn ml mf = some r → ∀ (H : Heap) (locs : List Loc) (ls : Array Slot), va_P D classes (wM a k mh mn mc ms ml mm mt mo mk mr my mb mf) H → va_D A (wM a k mh mn mc ms ml mm mt mo mk mr my mb mf) → va_S A s.heap H locs → lv_has ls 4 [(0, .ref (a 20)), (1, .int x1), (2, .int x2), (3, .int x3)] → W p l e (rm_M_become) s m args below meth c H locs 0 0 (MQ below (qc_M_become D A a k mh mn mc ms mm mt mo mk mr my mb r) args s 0 0 A) (F0 m 46 ls [])
def H_M_become_2 (p : Program) (l : Launch) (e : Env) (s : State) (m : MethodId) (args : Array Value) (below : List Frame) (meth : Method) (c : Code) (D : va_G) (A : Nat → Prop) (a : Nat → Nat) (k : Nat → ClassId) (mh : Int32) (mc : Int32) (ms : Nat → Int32) (mm : Nat → Int32) (mt : Nat → Int32) (mo : Nat → Int32) (mk : Int32) (mr : Nat → Int64) (my : Nat → Int32) (mb : Nat → Int64) (f : Int32 → Int32 → Int32 → Int32 → (Nat → Int32) → (Nat → Int32) → Option ((Nat → Int32) × (Nat → Int32))) : Prop := ∀ (x1 : Int32) (x2 : Int32) (x3 : Int32) (mn : Int32) (ml : Nat → Int32) (mf : Nat → Int32) (r : (Nat → Int32) × (Nat → Int32)), f x1 x2 x3 mn ml mf = some r → ∀ (H : Heap) (locs : List Loc) (ls : Array Slot), va_P D classes (wM a k mh mn mc ms ml mm mt mo mk mr my mb mf) H → va_D A (wM a k mh mn mc ms ml mm mt mo mk mr my mb mf) → va_S A s.heap H locs → lv_has ls 4 [(0, .ref (a 20)), (1, .int x1), (2, .int x2), (3, .int x3)] → W p l e (rm_M_become) s m args below meth c H locs 0 0 (MQ below (qc_M_become D A a k mh mn mc ms mm mt mo mk mr my mb r) args s 0 0 A) (F0 m 2 ls [])
def H_M_become_0 (p : Program) (l : Launch) (e : Env) (s : State) (m : MethodId) (args : Array Value) (below : List Frame) (meth : Method) (c : Code) (D : va_G) (A : Nat → Prop) (a : Nat → Nat) (k : Nat → ClassId) (mh : Int32) (mc : Int32) (ms : Nat → Int32) (mm : Nat → Int32) (mt : Nat → Int32) (mo : Nat → Int32) (mk : Int32) (mr : Nat → Int64) (my : Nat → Int32) (mb : Nat → Int64) (f : Int32 → Int32 → Int32 → (Nat → Int32) → (Nat → Int32) → Option ((Nat → Int32) × (Nat → Int32))) : Prop := ∀ (x1 : Int32) (x2 : Int32) (mn : Int32) (ml : Nat → Int32) (mf : Nat → Int32) (r : (Nat → Int32) × (Nat → Int32)), f x1 x2 mn ml mf = some r → ∀ (H : Heap) (locs : List Loc) (ls : Array Slot), va_P D classes (wM a k mh mn mc ms ml mm mt mo mk mr my mb mf) H → va_D A (wM a k mh mn mc ms ml mm mt mo mk mr my mb mf) → va_S A s.heap H locs → lv_has ls 4 [(0, .ref (a 20)), (1, .int x1), (2, .int x2)] → W p l e (rm_M_become) s m args below meth c H locs 0 0 (MQ below (qc_M_become D A a k mh mn mc ms mm mt mo mk mr my mb r) args s 0 0 A) (F0 m 0 ls [])
set_option maxHeartbeats 4000000 in
set_option maxRecDepth 100000 in
theorem k_M_become_46 {p : Program} {l : Launch} {e : Env} {s : State} {m : MethodId} {args : Array Value} {below : List Frame} {meth : Method} {c : Code} {D : va_G} {A : Nat → Prop} {a : Nat → Nat} {k : Nat → ClassId} {mh : Int32} {mc : Int32} {ms : Nat → Int32} {mm : Nat → Int32} {mt : Nat → Int32} {mo : Nat → Int32} {mk : Int32} {mr : Nat → Int64} {my : Nat → Int32} {mb : Nat → Int64} {rec46 : Int32 → Int32 → Int32 → Int32 → (Nat → Int32) → (Nat → Int32) → Option ((Nat → Int32) × (Nat → Int32))} (C : cx D [(k 21, .int), (k 22, .int), (k 23, .int), (k 24, .boolean), (k 25, .boolean), (k 26, .long), (k 27, .int), (k 28, .long), (k 29, .int)] R_M b_M_become 4 none A p s m args meth c) (hrec46 : H_M_become_46 p l e s m args below meth c D A a k mh mc ms mm mt mo mk mr my mb rec46) : H_M_become_46 p l e s m args below meth c D A a k mh mc ms mm mt mo mk mr my mb (J_M_become_46 rec46) := by
  obtain ⟨hx, hb, hr, hml, hown, ht, hlk, hA, hK⟩ := id C
  intro x1 x2 x3 mn ml mf r h H locs ls hP hD hS hl
  unfold J_M_become_46 at h
  refine lv_iload_n hx hb d_M_become_46 rfl (lv_at hl 3 rfl) ?_
  refine lv_iconst (v := 4) hx hb d_M_become_47 (by decide) ?_
  refine lv_icmp_ge (tgt := 83) hx hb d_M_become_48 (by decide) (fun c_1 => ?_) (fun c_1 => ?_)
  · have h := ite_T c_1 h
    cases h
    exact W.vret hx hb hr (fun t ht hW => ⟨⟨(), rfl, trivial, by rw [ht]; exact hP, va_K.moved hW.alike hK, hD⟩, hS.F ht⟩) hS.2.2 d_M_become_83 hlk
  · have h := ite_F c_1 h
    refine lv_aload_n hx hb d_M_become_51 rfl (lv_at hl 0 rfl) ?_
    refine va_get (D := D) (ci := 3) (v := .ref (a 29)) (C := R_M) (T := F_M) (N := 13) hx hb ht iC_M hown hK hP 0 rfl rfl 12 (by decide) (ht _ ix_225) (fun _ h9 => h9) rfl d_M_become_52 ?_
    refine lv_iload_n hx hb d_M_become_55 rfl (lv_at hl 3 rfl) ?_
    refine lv_aload_n hx hb d_M_become_56 rfl (lv_at hl 0 rfl) ?_
    refine va_get (D := D) (ci := 3) (v := .ref (a 29)) (C := R_M) (T := F_M) (N := 13) hx hb ht iC_M hown hK hP 0 rfl rfl 12 (by decide) (ht _ ix_225) (fun _ h9 => h9) rfl d_M_become_57 ?_
    refine lv_iload_n hx hb d_M_become_60 rfl (lv_at hl 3 rfl) ?_
    obtain ⟨g_2, h⟩ := gd_some h
    refine va_iald hx hb hK hP 9 8 rfl rfl (inb_in g_2) d_M_become_61 ?_
    refine lv_iload_n hx hb d_M_become_62 rfl (lv_at hl 1 rfl) ?_
    refine lv_icmp_ne (tgt := 70) hx hb d_M_become_63 (by decide) (fun c_3 => ?_) (fun c_3 => ?_)
    · have h := ite_F c_3 h
      refine lv_aload_n hx hb d_M_become_70 rfl (lv_at hl 0 rfl) ?_
      refine va_get (D := D) (ci := 3) (v := .ref (a 29)) (C := R_M) (T := F_M) (N := 13) hx hb ht iC_M hown hK hP 0 rfl rfl 12 (by decide) (ht _ ix_225) (fun _ h9 => h9) rfl d_M_become_71 ?_
      refine lv_iload_n hx hb d_M_become_74 rfl (lv_at hl 3 rfl) ?_
      obtain ⟨g_4, h⟩ := gd_some h
      refine va_iald hx hb hK hP 9 8 rfl rfl (inb_in g_4) d_M_become_75 ?_
      obtain ⟨g_5, h⟩ := gd_some h
      refine va_iast hx hb hK hP hD hS 9 8 rfl rfl (inb_in g_5) d_M_become_76 (fun H locs hP hD hS => ?_)
      have hP : va_P D classes (wM a k mh mn mc ms ml mm mt mo mk mr my mb (upd mf x3.toNatClampNeg (mf x3.toNatClampNeg))) H := hP
      have hD : va_D A (wM a k mh mn mc ms ml mm mt mo mk mr my mb (upd mf x3.toNatClampNeg (mf x3.toNatClampNeg))) := hD
      refine lv_iinc (v := x3 + 1) (lv' := [(3, .int (x3 + 1)), (0, .ref (a 20)), (1, .int x1), (2, .int x2)]) hx hb d_M_become_77 hl (k := 3) rfl rfl (by decide) rfl (fun ls hl => ?_)
      refine lv_goto (tgt := 46) hx hb d_M_become_80 (by decide) ?_
      exact hrec46 _ _ _ _ _ _ _ h _ _ _ hP hD hS (lv_sub hl [1, 2, 3, 0] rfl)
    · have h := ite_T c_3 h
      refine lv_iload_n hx hb d_M_become_66 rfl (lv_at hl 2 rfl) ?_
      refine lv_goto (tgt := 76) hx hb d_M_become_67 (by decide) ?_
      obtain ⟨g_6, h⟩ := gd_some h
      refine va_iast hx hb hK hP hD hS 9 8 rfl rfl (inb_in g_6) d_M_become_76 (fun H locs hP hD hS => ?_)
      have hP : va_P D classes (wM a k mh mn mc ms ml mm mt mo mk mr my mb (upd mf x3.toNatClampNeg x2)) H := hP
      have hD : va_D A (wM a k mh mn mc ms ml mm mt mo mk mr my mb (upd mf x3.toNatClampNeg x2)) := hD
      refine lv_iinc (v := x3 + 1) (lv' := [(3, .int (x3 + 1)), (0, .ref (a 20)), (1, .int x1), (2, .int x2)]) hx hb d_M_become_77 hl (k := 3) rfl rfl (by decide) rfl (fun ls hl => ?_)
      refine lv_goto (tgt := 46) hx hb d_M_become_80 (by decide) ?_
      exact hrec46 _ _ _ _ _ _ _ h _ _ _ hP hD hS (lv_sub hl [1, 2, 3, 0] rfl)
theorem k_M_become_46_L {p : Program} {l : Launch} {e : Env} {s : State} {m : MethodId} {args : Array Value} {below : List Frame} {meth : Method} {c : Code} {D : va_G} {A : Nat → Prop} {a : Nat → Nat} {k : Nat → ClassId} {mh : Int32} {mc : Int32} {ms : Nat → Int32} {mm : Nat → Int32} {mt : Nat → Int32} {mo : Nat → Int32} {mk : Int32} {mr : Nat → Int64} {my : Nat → Int32} {mb : Nat → Int64} (C : cx D [(k 21, .int), (k 22, .int), (k 23, .int), (k 24, .boolean), (k 25, .boolean), (k 26, .long), (k 27, .int), (k 28, .long), (k 29, .int)] R_M b_M_become 4 none A p s m args meth c) : ∀ n : Nat, H_M_become_46 p l e s m args below meth c D A a k mh mc ms mm mt mo mk mr my mb (L_M_become_46 n)
  | 0 => fun _ _ _ _ _ _ _ h => nomatch h
  | n + 1 => k_M_become_46 C (k_M_become_46_L C n)
set_option maxHeartbeats 4000000 in
set_option maxRecDepth 100000 in
theorem k_M_become_2 {p : Program} {l : Launch} {e : Env} {s : State} {m : MethodId} {args : Array Value} {below : List Frame} {meth : Method} {c : Code} {D : va_G} {A : Nat → Prop} {a : Nat → Nat} {k : Nat → ClassId} {mh : Int32} {mc : Int32} {ms : Nat → Int32} {mm : Nat → Int32} {mt : Nat → Int32} {mo : Nat → Int32} {mk : Int32} {mr : Nat → Int64} {my : Nat → Int32} {mb : Nat → Int64} {rec2 : Int32 → Int32 → Int32 → Int32 → (Nat → Int32) → (Nat → Int32) → Option ((Nat → Int32) × (Nat → Int32))} (C : cx D [(k 21, .int), (k 22, .int), (k 23, .int), (k 24, .boolean), (k 25, .boolean), (k 26, .long), (k 27, .int), (k 28, .long), (k 29, .int)] R_M b_M_become 4 none A p s m args meth c) (hrec2 : H_M_become_2 p l e s m args below meth c D A a k mh mc ms mm mt mo mk mr my mb rec2) : H_M_become_2 p l e s m args below meth c D A a k mh mc ms mm mt mo mk mr my mb (J_M_become_2 rec2) := by
  obtain ⟨hx, hb, hr, hml, hown, ht, hlk, hA, hK⟩ := id C
  intro x1 x2 x3 mn ml mf r h H locs ls hP hD hS hl
  unfold J_M_become_2 at h
  refine lv_iload_n hx hb d_M_become_2 rfl (lv_at hl 3 rfl) ?_
  refine lv_iconst (v := 4) hx hb d_M_become_3 (by decide) ?_
  refine lv_aload_n hx hb d_M_become_4 rfl (lv_at hl 0 rfl) ?_
  refine va_get (D := D) (ci := 3) (v := .int mn) (C := R_M) (T := F_M) (N := 13) hx hb ht iC_M hown hK hP 0 rfl rfl 1 (by decide) (ht _ ix_163) (fun _ h9 => h9) rfl d_M_become_5 ?_
  refine lv_imul hx hb d_M_become_8 ?_
  refine lv_icmp_ge (tgt := 44) hx hb d_M_become_9 (by decide) (fun c_1 => ?_) (fun c_1 => ?_)
  · have h := ite_T c_1 h
    refine lv_iconst (v := 0) hx hb d_M_become_44 (by decide) ?_
    refine lv_istore_n (lv' := [(3, .int (0 : Int32)), (0, .ref (a 20)), (1, .int x1), (2, .int x2)]) hx hb d_M_become_45 rfl hl (by decide) rfl (fun ls hl => ?_)
    exact (k_M_become_46_L C fu) _ _ _ _ _ _ _ h _ _ _ hP hD hS (lv_sub hl [1, 2, 3, 0] rfl)
  · have h := ite_F c_1 h
    refine lv_aload_n hx hb d_M_become_12 rfl (lv_at hl 0 rfl) ?_
    refine va_get (D := D) (ci := 3) (v := .ref (a 22)) (C := R_M) (T := F_M) (N := 13) hx hb ht iC_M hown hK hP 0 rfl rfl 4 (by decide) (ht _ ix_164) (fun _ h9 => h9) rfl d_M_become_13 ?_
    refine lv_iload_n hx hb d_M_become_16 rfl (lv_at hl 3 rfl) ?_
    refine lv_aload_n hx hb d_M_become_17 rfl (lv_at hl 0 rfl) ?_
    refine va_get (D := D) (ci := 3) (v := .ref (a 22)) (C := R_M) (T := F_M) (N := 13) hx hb ht iC_M hown hK hP 0 rfl rfl 4 (by decide) (ht _ ix_164) (fun _ h9 => h9) rfl d_M_become_18 ?_
    refine lv_iload_n hx hb d_M_become_21 rfl (lv_at hl 3 rfl) ?_
    obtain ⟨g_2, h⟩ := gd_some h
    refine va_iald hx hb hK hP 2 1 rfl rfl (inb_in g_2) d_M_become_22 ?_
    refine lv_iload_n hx hb d_M_become_23 rfl (lv_at hl 1 rfl) ?_
    refine lv_icmp_ne (tgt := 31) hx hb d_M_become_24 (by decide) (fun c_3 => ?_) (fun c_3 => ?_)
    · have h := ite_F c_3 h
      refine lv_aload_n hx hb d_M_become_31 rfl (lv_at hl 0 rfl) ?_
      refine va_get (D := D) (ci := 3) (v := .ref (a 22)) (C := R_M) (T := F_M) (N := 13) hx hb ht iC_M hown hK hP 0 rfl rfl 4 (by decide) (ht _ ix_164) (fun _ h9 => h9) rfl d_M_become_32 ?_
      refine lv_iload_n hx hb d_M_become_35 rfl (lv_at hl 3 rfl) ?_
      obtain ⟨g_4, h⟩ := gd_some h
      refine va_iald hx hb hK hP 2 1 rfl rfl (inb_in g_4) d_M_become_36 ?_
      obtain ⟨g_5, h⟩ := gd_some h
      refine va_iast hx hb hK hP hD hS 2 1 rfl rfl (inb_in g_5) d_M_become_37 (fun H locs hP hD hS => ?_)
      have hP : va_P D classes (wM a k mh mn mc ms (upd ml x3.toNatClampNeg (ml x3.toNatClampNeg)) mm mt mo mk mr my mb mf) H := hP
      have hD : va_D A (wM a k mh mn mc ms (upd ml x3.toNatClampNeg (ml x3.toNatClampNeg)) mm mt mo mk mr my mb mf) := hD
      refine lv_iinc (v := x3 + 1) (lv' := [(3, .int (x3 + 1)), (0, .ref (a 20)), (1, .int x1), (2, .int x2)]) hx hb d_M_become_38 hl (k := 3) rfl rfl (by decide) rfl (fun ls hl => ?_)
      refine lv_goto (tgt := 2) hx hb d_M_become_41 (by decide) ?_
      exact hrec2 _ _ _ _ _ _ _ h _ _ _ hP hD hS (lv_sub hl [1, 2, 3, 0] rfl)
    · have h := ite_T c_3 h
      refine lv_iload_n hx hb d_M_become_27 rfl (lv_at hl 2 rfl) ?_
      refine lv_goto (tgt := 37) hx hb d_M_become_28 (by decide) ?_
      obtain ⟨g_6, h⟩ := gd_some h
      refine va_iast hx hb hK hP hD hS 2 1 rfl rfl (inb_in g_6) d_M_become_37 (fun H locs hP hD hS => ?_)
      have hP : va_P D classes (wM a k mh mn mc ms (upd ml x3.toNatClampNeg x2) mm mt mo mk mr my mb mf) H := hP
      have hD : va_D A (wM a k mh mn mc ms (upd ml x3.toNatClampNeg x2) mm mt mo mk mr my mb mf) := hD
      refine lv_iinc (v := x3 + 1) (lv' := [(3, .int (x3 + 1)), (0, .ref (a 20)), (1, .int x1), (2, .int x2)]) hx hb d_M_become_38 hl (k := 3) rfl rfl (by decide) rfl (fun ls hl => ?_)
      refine lv_goto (tgt := 2) hx hb d_M_become_41 (by decide) ?_
      exact hrec2 _ _ _ _ _ _ _ h _ _ _ hP hD hS (lv_sub hl [1, 2, 3, 0] rfl)
theorem k_M_become_2_L {p : Program} {l : Launch} {e : Env} {s : State} {m : MethodId} {args : Array Value} {below : List Frame} {meth : Method} {c : Code} {D : va_G} {A : Nat → Prop} {a : Nat → Nat} {k : Nat → ClassId} {mh : Int32} {mc : Int32} {ms : Nat → Int32} {mm : Nat → Int32} {mt : Nat → Int32} {mo : Nat → Int32} {mk : Int32} {mr : Nat → Int64} {my : Nat → Int32} {mb : Nat → Int64} (C : cx D [(k 21, .int), (k 22, .int), (k 23, .int), (k 24, .boolean), (k 25, .boolean), (k 26, .long), (k 27, .int), (k 28, .long), (k 29, .int)] R_M b_M_become 4 none A p s m args meth c) : ∀ n : Nat, H_M_become_2 p l e s m args below meth c D A a k mh mc ms mm mt mo mk mr my mb (L_M_become_2 n)
  | 0 => fun _ _ _ _ _ _ _ h => nomatch h
  | n + 1 => k_M_become_2 C (k_M_become_2_L C n)
set_option maxHeartbeats 4000000 in
set_option maxRecDepth 100000 in
theorem k_M_become_0 {p : Program} {l : Launch} {e : Env} {s : State} {m : MethodId} {args : Array Value} {below : List Frame} {meth : Method} {c : Code} {D : va_G} {A : Nat → Prop} {a : Nat → Nat} {k : Nat → ClassId} {mh : Int32} {mc : Int32} {ms : Nat → Int32} {mm : Nat → Int32} {mt : Nat → Int32} {mo : Nat → Int32} {mk : Int32} {mr : Nat → Int64} {my : Nat → Int32} {mb : Nat → Int64} (C : cx D [(k 21, .int), (k 22, .int), (k 23, .int), (k 24, .boolean), (k 25, .boolean), (k 26, .long), (k 27, .int), (k 28, .long), (k 29, .int)] R_M b_M_become 4 none A p s m args meth c) : H_M_become_0 p l e s m args below meth c D A a k mh mc ms mm mt mo mk mr my mb (J_M_become_0) := by
  obtain ⟨hx, hb, hr, hml, hown, ht, hlk, hA, hK⟩ := id C
  intro x1 x2 mn ml mf r h H locs ls hP hD hS hl
  unfold J_M_become_0 at h
  refine lv_iconst (v := 0) hx hb d_M_become_0 (by decide) ?_
  refine lv_istore_n (lv' := [(3, .int (0 : Int32)), (0, .ref (a 20)), (1, .int x1), (2, .int x2)]) hx hb d_M_become_1 rfl hl (by decide) rfl (fun ls hl => ?_)
  exact (k_M_become_2_L C fu) _ _ _ _ _ _ _ h _ _ _ hP hD hS (lv_sub hl [1, 2, 3, 0] rfl)
set_option maxRecDepth 20000 in
theorem c_M_become (l : Launch) (D : va_G) (a : Nat → Nat) (k : Nat → ClassId) (sz : Nat) (x1 : Int32) (x2 : Int32) (mh : Int32) (mn : Int32) (mc : Int32) (ms : Nat → Int32) (ml : Nat → Int32) (mm : Nat → Int32) (mt : Nat → Int32) (mo : Nat → Int32) (mk : Int32) (mr : Nat → Int64) (my : Nat → Int32) (mb : Nat → Int64) (mf : Nat → Int32) (r : (Nat → Int32) × (Nat → Int32)) (h : F_M_become x1 x2 mn ml mf = some r) : Met l y_M_become (Cond.code y_M_become b_M_become 4 none :: lw_g) (rm_M_become) (va_Pc [.ref (a 20), .int x1, .int x2] (pcW D [(k 21, .int), (k 22, .int), (k 23, .int), (k 24, .boolean), (k 25, .boolean), (k 26, .long), (k 27, .int), (k 28, .long), (k 29, .int)] (wM a k mh mn mc ms ml mm mt mo mk mr my mb mf) sz)) (qc_M_become D (va_A (wM a k mh mn mc ms ml mm mt mo mk mr my mb mf) sz) a k mh mn mc ms mm mt mo mk mr my mb r) 0 0 (va_A (wM a k mh mn mc ms ml mm mt mo mk mr my mb mf) sz) := by
  refine Met.ofW (cc := b_M_become) (maxL := 4) (ret := none) (by decide) rfl ?_
  intro p e s m args below meth c s₁ B hml hv
  obtain ⟨rfl, hsz, hP, hK, hD0⟩ := hv
  have hts := atoms_spec (ws := Cond.code y_M_become b_M_become 4 none :: lw_g) B.pre
  subst hsz
  have hD := hD0.self (sz := s.heap.size)
  have hl := lv_entry ([.ref (a 20), .int x1, .int x2]) (n := 4) (Nat.le_of_ble_eq_true rfl)
  rw [lg_entry_eq]
  generalize (lg_sl ([.ref (a 20), .int x1, .int x2]) ++ List.replicate (4 - (lg_sl ([.ref (a 20), .int x1, .int x2])).length) Slot.unset).toArray = ls at hl ⊢
  exact k_M_become_0 ⟨B.exec, B.bytes, B.returns, hml, findClass_of_methodNamed B.named, fun w hw => hts w (List.mem_cons_of_mem _ hw), B.notSynchronized, fun q h => Or.inr h, hK⟩ _ _ _ _ _ _ h _ _ _ hP hD va_S.rf hl

def rm_M_join : Room := { frames := 1, cells := 0, slots := 0, locals := 23 }
def qc_M_join (D : va_G) (A : Nat → Prop) (a : Nat → Nat) (k : Nat → ClassId) (mh : Int32) (mn : Int32) (mc : Int32) (ms : Nat → Int32) (mm : Nat → Int32) (mt : Nat → Int32) (mo : Nat → Int32) (mk : Int32) (mr : Nat → Int64) (my : Nat → Int32) (mb : Nat → Int64) (r : Int32 × (Nat → Int32) × (Nat → Int32)) : Array Value → State → Outcome → State → Prop := va_Qi (fun (r1 : Int32) (_ : Unit) => r1 = r.1) (poW D [(k 21, .int), (k 22, .int), (k 23, .int), (k 24, .boolean), (k 25, .boolean), (k 26, .long), (k 27, .int), (k 28, .long), (k 29, .int)] (wM a k mh mn mc ms r.2.1 mm mt mo mk mr my mb r.2.2) A) A
def J_M_join_28 (y0 : Int32) (y1 : Int32) (mn : Int32) (ml : Nat → Int32) (mf : Nat → Int32) : Option (Int32 × (Nat → Int32) × (Nat → Int32)) :=
  (Option.bind (F_M_become y1 y0 mn ml mf) (fun v_1 => some ((0 : Int32), v_1.1, v_1.2)))
def J_M_join_18 (x1 : Int32) (x2 : Int32) (y0 : Int32) (mn : Int32) (ml : Nat → Int32) (mf : Nat → Int32) : Option (Int32 × (Nat → Int32) × (Nat → Int32)) :=
  (if x2 ≤ x1 then J_M_join_28 x2 y0 mn ml mf else J_M_join_28 x1 y0 mn ml mf)
def J_M_join_0 (x1 : Int32) (x2 : Int32) (mn : Int32) (ml : Nat → Int32) (mf : Nat → Int32) : Option (Int32 × (Nat → Int32) × (Nat → Int32)) :=
  (if x1 = x2 then some ((1 : Int32), ml, mf) else (if x2 ≤ x1 then J_M_join_18 x1 x2 x1 mn ml mf else J_M_join_18 x1 x2 x2 mn ml mf))
def F_M_join (x1 : Int32) (x2 : Int32) (mn : Int32) (ml : Nat → Int32) (mf : Nat → Int32) : Option (Int32 × (Nat → Int32) × (Nat → Int32)) := J_M_join_0 x1 x2 mn ml mf
def H_M_join_28 (p : Program) (l : Launch) (e : Env) (s : State) (m : MethodId) (args : Array Value) (below : List Frame) (meth : Method) (c : Code) (D : va_G) (A : Nat → Prop) (a : Nat → Nat) (k : Nat → ClassId) (mh : Int32) (mc : Int32) (ms : Nat → Int32) (mm : Nat → Int32) (mt : Nat → Int32) (mo : Nat → Int32) (mk : Int32) (mr : Nat → Int64) (my : Nat → Int32) (mb : Nat → Int64) (f : Int32 → Int32 → Int32 → (Nat → Int32) → (Nat → Int32) → Option (Int32 × (Nat → Int32) × (Nat → Int32))) : Prop := ∀ (y0 : Int32) (y1 : Int32) (mn : Int32) (ml : Nat → Int32) (mf : Nat → Int32) (r : Int32 × (Nat → Int32) × (Nat → Int32)), f y0 y1 mn ml mf = some r → ∀ (H : Heap) (locs : List Loc) (ls : Array Slot), va_P D classes (wM a k mh mn mc ms ml mm mt mo mk mr my mb mf) H → va_D A (wM a k mh mn mc ms ml mm mt mo mk mr my mb mf) → va_S A s.heap H locs → lv_has ls 3 [] → W p l e (rm_M_join) s m args below meth c H locs 0 0 (MQ below (qc_M_join D A a k mh mn mc ms mm mt mo mk mr my mb r) args s 0 0 A) (F0 m 28 ls [.int y0, .int y1, .ref (a 20)])
def H_M_join_18 (p : Program) (l : Launch) (e : Env) (s : State) (m : MethodId) (args : Array Value) (below : List Frame) (meth : Method) (c : Code) (D : va_G) (A : Nat → Prop) (a : Nat → Nat) (k : Nat → ClassId) (mh : Int32) (mc : Int32) (ms : Nat → Int32) (mm : Nat → Int32) (mt : Nat → Int32) (mo : Nat → Int32) (mk : Int32) (mr : Nat → Int64) (my : Nat → Int32) (mb : Nat → Int64) (f : Int32 → Int32 → Int32 → Int32 → (Nat → Int32) → (Nat → Int32) → Option (Int32 × (Nat → Int32) × (Nat → Int32))) : Prop := ∀ (x1 : Int32) (x2 : Int32) (y0 : Int32) (mn : Int32) (ml : Nat → Int32) (mf : Nat → Int32) (r : Int32 × (Nat → Int32) × (Nat → Int32)), f x1 x2 y0 mn ml mf = some r → ∀ (H : Heap) (locs : List Loc) (ls : Array Slot), va_P D classes (wM a k mh mn mc ms ml mm mt mo mk mr my mb mf) H → va_D A (wM a k mh mn mc ms ml mm mt mo mk mr my mb mf) → va_S A s.heap H locs → lv_has ls 3 [(1, .int x1), (2, .int x2)] → W p l e (rm_M_join) s m args below meth c H locs 0 0 (MQ below (qc_M_join D A a k mh mn mc ms mm mt mo mk mr my mb r) args s 0 0 A) (F0 m 18 ls [.int y0, .ref (a 20)])
def H_M_join_0 (p : Program) (l : Launch) (e : Env) (s : State) (m : MethodId) (args : Array Value) (below : List Frame) (meth : Method) (c : Code) (D : va_G) (A : Nat → Prop) (a : Nat → Nat) (k : Nat → ClassId) (mh : Int32) (mc : Int32) (ms : Nat → Int32) (mm : Nat → Int32) (mt : Nat → Int32) (mo : Nat → Int32) (mk : Int32) (mr : Nat → Int64) (my : Nat → Int32) (mb : Nat → Int64) (f : Int32 → Int32 → Int32 → (Nat → Int32) → (Nat → Int32) → Option (Int32 × (Nat → Int32) × (Nat → Int32))) : Prop := ∀ (x1 : Int32) (x2 : Int32) (mn : Int32) (ml : Nat → Int32) (mf : Nat → Int32) (r : Int32 × (Nat → Int32) × (Nat → Int32)), f x1 x2 mn ml mf = some r → ∀ (H : Heap) (locs : List Loc) (ls : Array Slot), va_P D classes (wM a k mh mn mc ms ml mm mt mo mk mr my mb mf) H → va_D A (wM a k mh mn mc ms ml mm mt mo mk mr my mb mf) → va_S A s.heap H locs → lv_has ls 3 [(0, .ref (a 20)), (1, .int x1), (2, .int x2)] → W p l e (rm_M_join) s m args below meth c H locs 0 0 (MQ below (qc_M_join D A a k mh mn mc ms mm mt mo mk mr my mb r) args s 0 0 A) (F0 m 0 ls [])
set_option maxHeartbeats 4000000 in
set_option maxRecDepth 100000 in
theorem k_M_join_28 {p : Program} {l : Launch} {e : Env} {s : State} {m : MethodId} {args : Array Value} {below : List Frame} {meth : Method} {c : Code} {D : va_G} {A : Nat → Prop} {a : Nat → Nat} {k : Nat → ClassId} {mh : Int32} {mc : Int32} {ms : Nat → Int32} {mm : Nat → Int32} {mt : Nat → Int32} {mo : Nat → Int32} {mk : Int32} {mr : Nat → Int64} {my : Nat → Int32} {mb : Nat → Int64} (C : cx D [(k 21, .int), (k 22, .int), (k 23, .int), (k 24, .boolean), (k 25, .boolean), (k 26, .long), (k 27, .int), (k 28, .long), (k 29, .int)] R_M b_M_join 3 (some .int) A p s m args meth c) : H_M_join_28 p l e s m args below meth c D A a k mh mc ms mm mt mo mk mr my mb (J_M_join_28) := by
  obtain ⟨hx, hb, hr, hml, hown, ht, hlk, hA, hK⟩ := id C
  intro y0 y1 mn ml mf r h H locs ls hP hD hS hl
  unfold J_M_join_28 at h
  obtain ⟨v_1, e_1, h⟩ := bd_some h
  refine go_Vv (As := [.int y1, .int y0]) (rest := []) (wc := (wM a k mh mn mc ms ml mm mt mo mk mr my mb mf)) (wr := []) (w1 := (wM a k mh mn mc ms v_1.1 mm mt mo mk mr my mb v_1.2)) (w2 := (wM a k mh mn mc ms v_1.1 mm mt mo mk mr my mb v_1.2)) (tc := [(k 21, .int), (k 22, .int), (k 23, .int), (k 24, .boolean), (k 25, .boolean), (k 26, .long), (k 27, .int), (k 28, .long), (k 29, .int)]) hx hb hml hown ht (c_M_become l D a k H.size y1 y0 mh mn mc ms ml mm mt mo mk mr my mb mf v_1 e_1) g_M_98 ⟨rfl, rfl⟩ (n := 2) (by decide +kernel) ⟨(Nat.le_of_ble_eq_true rfl), (Nat.le_of_ble_eq_true rfl)⟩ hP hD hK hS hA ⟨Nat.zero_le _, Nat.zero_le _⟩ [0, 1, 2, 3, 4, 5, 6, 7, 8, 9] [] [0, 1, 2, 3, 4, 5, 6, 7, 8] [0, 1, 2, 3, 4, 5, 6, 7, 8, 9] rfl rfl rfl rfl (by decide) (by decide) (by decide) rfl (by decide) 0 rfl rfl rfl rfl rfl hl.1 (Nat.le_of_ble_eq_true rfl) d_M_join_28 (fun H locs hP hD hS => ?_)
  refine lv_iconst (v := 0) hx hb d_M_join_31 (by decide) ?_
  cases h
  exact W.iret hx hb hr (fun t ht hW => ⟨⟨_, (), rfl, rfl, by rw [ht]; exact hP, va_K.moved hW.alike hK, hD⟩, hS.F ht⟩) hS.2.2 d_M_join_32 hlk
set_option maxHeartbeats 4000000 in
set_option maxRecDepth 100000 in
theorem k_M_join_18 {p : Program} {l : Launch} {e : Env} {s : State} {m : MethodId} {args : Array Value} {below : List Frame} {meth : Method} {c : Code} {D : va_G} {A : Nat → Prop} {a : Nat → Nat} {k : Nat → ClassId} {mh : Int32} {mc : Int32} {ms : Nat → Int32} {mm : Nat → Int32} {mt : Nat → Int32} {mo : Nat → Int32} {mk : Int32} {mr : Nat → Int64} {my : Nat → Int32} {mb : Nat → Int64} (C : cx D [(k 21, .int), (k 22, .int), (k 23, .int), (k 24, .boolean), (k 25, .boolean), (k 26, .long), (k 27, .int), (k 28, .long), (k 29, .int)] R_M b_M_join 3 (some .int) A p s m args meth c) : H_M_join_18 p l e s m args below meth c D A a k mh mc ms mm mt mo mk mr my mb (J_M_join_18) := by
  obtain ⟨hx, hb, hr, hml, hown, ht, hlk, hA, hK⟩ := id C
  intro x1 x2 y0 mn ml mf r h H locs ls hP hD hS hl
  unfold J_M_join_18 at h
  refine lv_iload_n hx hb d_M_join_18 rfl (lv_at hl 0 rfl) ?_
  refine lv_iload_n hx hb d_M_join_19 rfl (lv_at hl 1 rfl) ?_
  refine lv_icmp_ge (tgt := 27) hx hb d_M_join_20 (by decide) (fun c_1 => ?_) (fun c_1 => ?_)
  · have h := ite_T c_1 h
    refine lv_iload_n hx hb d_M_join_27 rfl (lv_at hl 1 rfl) ?_
    exact (k_M_join_28 C) _ _ _ _ _ _ h _ _ _ hP hD hS (lv_sub hl [] rfl)
  · have h := ite_F c_1 h
    refine lv_iload_n hx hb d_M_join_23 rfl (lv_at hl 0 rfl) ?_
    refine lv_goto (tgt := 28) hx hb d_M_join_24 (by decide) ?_
    exact (k_M_join_28 C) _ _ _ _ _ _ h _ _ _ hP hD hS (lv_sub hl [] rfl)
set_option maxHeartbeats 4000000 in
set_option maxRecDepth 100000 in
theorem k_M_join_0 {p : Program} {l : Launch} {e : Env} {s : State} {m : MethodId} {args : Array Value} {below : List Frame} {meth : Method} {c : Code} {D : va_G} {A : Nat → Prop} {a : Nat → Nat} {k : Nat → ClassId} {mh : Int32} {mc : Int32} {ms : Nat → Int32} {mm : Nat → Int32} {mt : Nat → Int32} {mo : Nat → Int32} {mk : Int32} {mr : Nat → Int64} {my : Nat → Int32} {mb : Nat → Int64} (C : cx D [(k 21, .int), (k 22, .int), (k 23, .int), (k 24, .boolean), (k 25, .boolean), (k 26, .long), (k 27, .int), (k 28, .long), (k 29, .int)] R_M b_M_join 3 (some .int) A p s m args meth c) : H_M_join_0 p l e s m args below meth c D A a k mh mc ms mm mt mo mk mr my mb (J_M_join_0) := by
  obtain ⟨hx, hb, hr, hml, hown, ht, hlk, hA, hK⟩ := id C
  intro x1 x2 mn ml mf r h H locs ls hP hD hS hl
  unfold J_M_join_0 at h
  refine lv_iload_n hx hb d_M_join_0 rfl (lv_at hl 1 rfl) ?_
  refine lv_iload_n hx hb d_M_join_1 rfl (lv_at hl 2 rfl) ?_
  refine lv_icmp_ne (tgt := 7) hx hb d_M_join_2 (by decide) (fun c_1 => ?_) (fun c_1 => ?_)
  · have h := ite_F c_1 h
    refine lv_aload_n hx hb d_M_join_7 rfl (lv_at hl 0 rfl) ?_
    refine lv_iload_n hx hb d_M_join_8 rfl (lv_at hl 1 rfl) ?_
    refine lv_iload_n hx hb d_M_join_9 rfl (lv_at hl 2 rfl) ?_
    refine lv_icmp_ge (tgt := 17) hx hb d_M_join_10 (by decide) (fun c_2 => ?_) (fun c_2 => ?_)
    · have h := ite_T c_2 h
      refine lv_iload_n hx hb d_M_join_17 rfl (lv_at hl 1 rfl) ?_
      exact (k_M_join_18 C) _ _ _ _ _ _ _ h _ _ _ hP hD hS (lv_sub hl [1, 2] rfl)
    · have h := ite_F c_2 h
      refine lv_iload_n hx hb d_M_join_13 rfl (lv_at hl 2 rfl) ?_
      refine lv_goto (tgt := 18) hx hb d_M_join_14 (by decide) ?_
      exact (k_M_join_18 C) _ _ _ _ _ _ _ h _ _ _ hP hD hS (lv_sub hl [1, 2] rfl)
  · have h := ite_T c_1 h
    refine lv_iconst (v := 1) hx hb d_M_join_5 (by decide) ?_
    cases h
    exact W.iret hx hb hr (fun t ht hW => ⟨⟨_, (), rfl, rfl, by rw [ht]; exact hP, va_K.moved hW.alike hK, hD⟩, hS.F ht⟩) hS.2.2 d_M_join_6 hlk
set_option maxRecDepth 20000 in
theorem c_M_join (l : Launch) (D : va_G) (a : Nat → Nat) (k : Nat → ClassId) (sz : Nat) (x1 : Int32) (x2 : Int32) (mh : Int32) (mn : Int32) (mc : Int32) (ms : Nat → Int32) (ml : Nat → Int32) (mm : Nat → Int32) (mt : Nat → Int32) (mo : Nat → Int32) (mk : Int32) (mr : Nat → Int64) (my : Nat → Int32) (mb : Nat → Int64) (mf : Nat → Int32) (r : Int32 × (Nat → Int32) × (Nat → Int32)) (h : F_M_join x1 x2 mn ml mf = some r) : Met l y_M_join (Cond.code y_M_join b_M_join 3 (some .int) :: lw_g) (rm_M_join) (va_Pc [.ref (a 20), .int x1, .int x2] (pcW D [(k 21, .int), (k 22, .int), (k 23, .int), (k 24, .boolean), (k 25, .boolean), (k 26, .long), (k 27, .int), (k 28, .long), (k 29, .int)] (wM a k mh mn mc ms ml mm mt mo mk mr my mb mf) sz)) (qc_M_join D (va_A (wM a k mh mn mc ms ml mm mt mo mk mr my mb mf) sz) a k mh mn mc ms mm mt mo mk mr my mb r) 0 0 (va_A (wM a k mh mn mc ms ml mm mt mo mk mr my mb mf) sz) := by
  refine Met.ofW (cc := b_M_join) (maxL := 3) (ret := (some .int)) (by decide) rfl ?_
  intro p e s m args below meth c s₁ B hml hv
  obtain ⟨rfl, hsz, hP, hK, hD0⟩ := hv
  have hts := atoms_spec (ws := Cond.code y_M_join b_M_join 3 (some .int) :: lw_g) B.pre
  subst hsz
  have hD := hD0.self (sz := s.heap.size)
  have hl := lv_entry ([.ref (a 20), .int x1, .int x2]) (n := 3) (Nat.le_of_ble_eq_true rfl)
  rw [lg_entry_eq]
  generalize (lg_sl ([.ref (a 20), .int x1, .int x2]) ++ List.replicate (3 - (lg_sl ([.ref (a 20), .int x1, .int x2])).length) Slot.unset).toArray = ls at hl ⊢
  exact k_M_join_0 ⟨B.exec, B.bytes, B.returns, hml, findClass_of_methodNamed B.named, fun w hw => hts w (List.mem_cons_of_mem _ hw), B.notSynchronized, fun q h => Or.inr h, hK⟩ _ _ _ _ _ _ h _ _ _ hP hD va_S.rf hl

def rm_M_closing : Room := { frames := 0, cells := 0, slots := 0, locals := 0 }
def qc_M_closing (D : va_G) (A : Nat → Prop) (a : Nat → Nat) (k : Nat → ClassId) (mh : Int32) (mn : Int32) (mc : Int32) (ms : Nat → Int32) (ml : Nat → Int32) (mm : Nat → Int32) (mt : Nat → Int32) (mo : Nat → Int32) (mk : Int32) (mr : Nat → Int64) (my : Nat → Int32) (mb : Nat → Int64) (mf : Nat → Int32) (r : Int32) : Array Value → State → Outcome → State → Prop := va_Qi (fun (r1 : Int32) (_ : Unit) => r1 = r) (poW D [(k 21, .int), (k 22, .int), (k 23, .int), (k 24, .boolean), (k 25, .boolean), (k 26, .long), (k 27, .int), (k 28, .long), (k 29, .int)] (wM a k mh mn mc ms ml mm mt mo mk mr my mb mf) A) A
def J_M_closing_176 (x7 : Int32) (y0 : Int32) (ml : Nat → Int32) : Option (Int32) :=
  (if x7 = 0 then (if y0 = 0 then some (x7) else some ((1 : Int32))) else some (x7))
def J_M_closing_171 (x7 : Int32) (ml : Nat → Int32) : Option (Int32) :=
  J_M_closing_176 x7 (1 : Int32) ml
def J_M_closing_175 (x7 : Int32) (ml : Nat → Int32) : Option (Int32) :=
  J_M_closing_176 x7 (0 : Int32) ml
def J_M_closing_138 (x3 : Int32) (x4 : Int32) (x5 : Int32) (x6 : Int32) (x7 : Int32) (ml : Nat → Int32) : Option (Int32) :=
  (if inb x3 40 then (if inb x6 40 then (if (ml x3.toNatClampNeg) = (ml x6.toNatClampNeg) then (if inb x4 40 then (if inb x5 40 then (if (ml x4.toNatClampNeg) = (ml x5.toNatClampNeg) then J_M_closing_171 x7 ml else J_M_closing_175 x7 ml) else none) else none) else J_M_closing_175 x7 ml) else none) else none)
def J_M_closing_102 (x3 : Int32) (x4 : Int32) (x5 : Int32) (x6 : Int32) (y0 : Int32) (y1 : Int32) (ml : Nat → Int32) : Option (Int32) :=
  (if inb x3 40 then (if inb x5 40 then (if (ml x3.toNatClampNeg) = (ml x5.toNatClampNeg) then (if inb x4 40 then (if inb x6 40 then (if (ml x4.toNatClampNeg) = (ml x6.toNatClampNeg) then J_M_closing_171 (y1 + y0) ml else J_M_closing_138 x3 x4 x5 x6 (y1 + y0) ml) else none) else none) else J_M_closing_138 x3 x4 x5 x6 (y1 + y0) ml) else none) else none)
def J_M_closing_80 (x3 : Int32) (x4 : Int32) (x5 : Int32) (x6 : Int32) (y0 : Int32) (ml : Nat → Int32) : Option (Int32) :=
  (if inb x5 40 then (if inb x6 40 then (if (ml x5.toNatClampNeg) = (ml x6.toNatClampNeg) then J_M_closing_102 x3 x4 x5 x6 (1 : Int32) y0 ml else J_M_closing_102 x3 x4 x5 x6 (0 : Int32) y0 ml) else none) else none)
def J_M_closing_56 (x3 : Int32) (x4 : Int32) (x5 : Int32) (y0 : Int32) (y1 : Int32) (ml : Nat → Int32) : Option (Int32) :=
  (if inb x3 40 then (if inb x4 40 then (if (ml x3.toNatClampNeg) = (ml x4.toNatClampNeg) then J_M_closing_80 x3 x4 x5 (y1 + y0) (1 : Int32) ml else J_M_closing_80 x3 x4 x5 (y1 + y0) (0 : Int32) ml) else none) else none)
def J_M_closing_41 (x1 : Int32) (x2 : Int32) (x3 : Int32) (x4 : Int32) (y0 : Int32) (y1 : Int32) (ml : Nat → Int32) : Option (Int32) :=
  (if x2 = 0 then J_M_closing_56 x3 x4 (y1 + y0) (0 : Int32) ((4 : Int32) * x1) ml else J_M_closing_56 x3 x4 (y1 + y0) (3 : Int32) ((4 : Int32) * x1) ml)
def J_M_closing_26 (x1 : Int32) (x2 : Int32) (x3 : Int32) (y0 : Int32) (y1 : Int32) (ml : Nat → Int32) : Option (Int32) :=
  (if x2 = 0 then J_M_closing_41 x1 x2 x3 (y1 + y0) (3 : Int32) ((4 : Int32) * x1) ml else J_M_closing_41 x1 x2 x3 (y1 + y0) (2 : Int32) ((4 : Int32) * x1) ml)
def J_M_closing_12 (x1 : Int32) (x2 : Int32) (y0 : Int32) (y1 : Int32) (ml : Nat → Int32) : Option (Int32) :=
  (if x2 = 0 then J_M_closing_26 x1 x2 (y1 + y0) (2 : Int32) ((4 : Int32) * x1) ml else J_M_closing_26 x1 x2 (y1 + y0) (1 : Int32) ((4 : Int32) * x1) ml)
def J_M_closing_0 (x1 : Int32) (x2 : Int32) (ml : Nat → Int32) : Option (Int32) :=
  (if x2 = 0 then J_M_closing_12 x1 x2 (1 : Int32) ((4 : Int32) * x1) ml else J_M_closing_12 x1 x2 (0 : Int32) ((4 : Int32) * x1) ml)
def F_M_closing (x1 : Int32) (x2 : Int32) (ml : Nat → Int32) : Option (Int32) := J_M_closing_0 x1 x2 ml
def H_M_closing_176 (p : Program) (l : Launch) (e : Env) (s : State) (m : MethodId) (args : Array Value) (below : List Frame) (meth : Method) (c : Code) (D : va_G) (A : Nat → Prop) (a : Nat → Nat) (k : Nat → ClassId) (mh : Int32) (mn : Int32) (mc : Int32) (ms : Nat → Int32) (mm : Nat → Int32) (mt : Nat → Int32) (mo : Nat → Int32) (mk : Int32) (mr : Nat → Int64) (my : Nat → Int32) (mb : Nat → Int64) (mf : Nat → Int32) (f : Int32 → Int32 → (Nat → Int32) → Option (Int32)) : Prop := ∀ (x7 : Int32) (y0 : Int32) (ml : Nat → Int32) (r : Int32), f x7 y0 ml = some r → ∀ (H : Heap) (locs : List Loc) (ls : Array Slot), va_P D classes (wM a k mh mn mc ms ml mm mt mo mk mr my mb mf) H → va_D A (wM a k mh mn mc ms ml mm mt mo mk mr my mb mf) → va_S A s.heap H locs → lv_has ls 9 [(7, .int x7)] → W p l e (rm_M_closing) s m args below meth c H locs 0 0 (MQ below (qc_M_closing D A a k mh mn mc ms ml mm mt mo mk mr my mb mf r) args s 0 0 A) (F0 m 176 ls [.int y0])
def H_M_closing_171 (p : Program) (l : Launch) (e : Env) (s : State) (m : MethodId) (args : Array Value) (below : List Frame) (meth : Method) (c : Code) (D : va_G) (A : Nat → Prop) (a : Nat → Nat) (k : Nat → ClassId) (mh : Int32) (mn : Int32) (mc : Int32) (ms : Nat → Int32) (mm : Nat → Int32) (mt : Nat → Int32) (mo : Nat → Int32) (mk : Int32) (mr : Nat → Int64) (my : Nat → Int32) (mb : Nat → Int64) (mf : Nat → Int32) (f : Int32 → (Nat → Int32) → Option (Int32)) : Prop := ∀ (x7 : Int32) (ml : Nat → Int32) (r : Int32), f x7 ml = some r → ∀ (H : Heap) (locs : List Loc) (ls : Array Slot), va_P D classes (wM a k mh mn mc ms ml mm mt mo mk mr my mb mf) H → va_D A (wM a k mh mn mc ms ml mm mt mo mk mr my mb mf) → va_S A s.heap H locs → lv_has ls 9 [(7, .int x7)] → W p l e (rm_M_closing) s m args below meth c H locs 0 0 (MQ below (qc_M_closing D A a k mh mn mc ms ml mm mt mo mk mr my mb mf r) args s 0 0 A) (F0 m 171 ls [])
def H_M_closing_175 (p : Program) (l : Launch) (e : Env) (s : State) (m : MethodId) (args : Array Value) (below : List Frame) (meth : Method) (c : Code) (D : va_G) (A : Nat → Prop) (a : Nat → Nat) (k : Nat → ClassId) (mh : Int32) (mn : Int32) (mc : Int32) (ms : Nat → Int32) (mm : Nat → Int32) (mt : Nat → Int32) (mo : Nat → Int32) (mk : Int32) (mr : Nat → Int64) (my : Nat → Int32) (mb : Nat → Int64) (mf : Nat → Int32) (f : Int32 → (Nat → Int32) → Option (Int32)) : Prop := ∀ (x7 : Int32) (ml : Nat → Int32) (r : Int32), f x7 ml = some r → ∀ (H : Heap) (locs : List Loc) (ls : Array Slot), va_P D classes (wM a k mh mn mc ms ml mm mt mo mk mr my mb mf) H → va_D A (wM a k mh mn mc ms ml mm mt mo mk mr my mb mf) → va_S A s.heap H locs → lv_has ls 9 [(7, .int x7)] → W p l e (rm_M_closing) s m args below meth c H locs 0 0 (MQ below (qc_M_closing D A a k mh mn mc ms ml mm mt mo mk mr my mb mf r) args s 0 0 A) (F0 m 175 ls [])
def H_M_closing_138 (p : Program) (l : Launch) (e : Env) (s : State) (m : MethodId) (args : Array Value) (below : List Frame) (meth : Method) (c : Code) (D : va_G) (A : Nat → Prop) (a : Nat → Nat) (k : Nat → ClassId) (mh : Int32) (mn : Int32) (mc : Int32) (ms : Nat → Int32) (mm : Nat → Int32) (mt : Nat → Int32) (mo : Nat → Int32) (mk : Int32) (mr : Nat → Int64) (my : Nat → Int32) (mb : Nat → Int64) (mf : Nat → Int32) (f : Int32 → Int32 → Int32 → Int32 → Int32 → (Nat → Int32) → Option (Int32)) : Prop := ∀ (x3 : Int32) (x4 : Int32) (x5 : Int32) (x6 : Int32) (x7 : Int32) (ml : Nat → Int32) (r : Int32), f x3 x4 x5 x6 x7 ml = some r → ∀ (H : Heap) (locs : List Loc) (ls : Array Slot), va_P D classes (wM a k mh mn mc ms ml mm mt mo mk mr my mb mf) H → va_D A (wM a k mh mn mc ms ml mm mt mo mk mr my mb mf) → va_S A s.heap H locs → lv_has ls 9 [(0, .ref (a 20)), (3, .int x3), (4, .int x4), (5, .int x5), (6, .int x6), (7, .int x7)] → W p l e (rm_M_closing) s m args below meth c H locs 0 0 (MQ below (qc_M_closing D A a k mh mn mc ms ml mm mt mo mk mr my mb mf r) args s 0 0 A) (F0 m 138 ls [])
def H_M_closing_102 (p : Program) (l : Launch) (e : Env) (s : State) (m : MethodId) (args : Array Value) (below : List Frame) (meth : Method) (c : Code) (D : va_G) (A : Nat → Prop) (a : Nat → Nat) (k : Nat → ClassId) (mh : Int32) (mn : Int32) (mc : Int32) (ms : Nat → Int32) (mm : Nat → Int32) (mt : Nat → Int32) (mo : Nat → Int32) (mk : Int32) (mr : Nat → Int64) (my : Nat → Int32) (mb : Nat → Int64) (mf : Nat → Int32) (f : Int32 → Int32 → Int32 → Int32 → Int32 → Int32 → (Nat → Int32) → Option (Int32)) : Prop := ∀ (x3 : Int32) (x4 : Int32) (x5 : Int32) (x6 : Int32) (y0 : Int32) (y1 : Int32) (ml : Nat → Int32) (r : Int32), f x3 x4 x5 x6 y0 y1 ml = some r → ∀ (H : Heap) (locs : List Loc) (ls : Array Slot), va_P D classes (wM a k mh mn mc ms ml mm mt mo mk mr my mb mf) H → va_D A (wM a k mh mn mc ms ml mm mt mo mk mr my mb mf) → va_S A s.heap H locs → lv_has ls 9 [(0, .ref (a 20)), (3, .int x3), (4, .int x4), (5, .int x5), (6, .int x6)] → W p l e (rm_M_closing) s m args below meth c H locs 0 0 (MQ below (qc_M_closing D A a k mh mn mc ms ml mm mt mo mk mr my mb mf r) args s 0 0 A) (F0 m 102 ls [.int y0, .int y1])
def H_M_closing_80 (p : Program) (l : Launch) (e : Env) (s : State) (m : MethodId) (args : Array Value) (below : List Frame) (meth : Method) (c : Code) (D : va_G) (A : Nat → Prop) (a : Nat → Nat) (k : Nat → ClassId) (mh : Int32) (mn : Int32) (mc : Int32) (ms : Nat → Int32) (mm : Nat → Int32) (mt : Nat → Int32) (mo : Nat → Int32) (mk : Int32) (mr : Nat → Int64) (my : Nat → Int32) (mb : Nat → Int64) (mf : Nat → Int32) (f : Int32 → Int32 → Int32 → Int32 → Int32 → (Nat → Int32) → Option (Int32)) : Prop := ∀ (x3 : Int32) (x4 : Int32) (x5 : Int32) (x6 : Int32) (y0 : Int32) (ml : Nat → Int32) (r : Int32), f x3 x4 x5 x6 y0 ml = some r → ∀ (H : Heap) (locs : List Loc) (ls : Array Slot), va_P D classes (wM a k mh mn mc ms ml mm mt mo mk mr my mb mf) H → va_D A (wM a k mh mn mc ms ml mm mt mo mk mr my mb mf) → va_S A s.heap H locs → lv_has ls 9 [(0, .ref (a 20)), (3, .int x3), (4, .int x4), (5, .int x5), (6, .int x6)] → W p l e (rm_M_closing) s m args below meth c H locs 0 0 (MQ below (qc_M_closing D A a k mh mn mc ms ml mm mt mo mk mr my mb mf r) args s 0 0 A) (F0 m 80 ls [.int y0])
def H_M_closing_56 (p : Program) (l : Launch) (e : Env) (s : State) (m : MethodId) (args : Array Value) (below : List Frame) (meth : Method) (c : Code) (D : va_G) (A : Nat → Prop) (a : Nat → Nat) (k : Nat → ClassId) (mh : Int32) (mn : Int32) (mc : Int32) (ms : Nat → Int32) (mm : Nat → Int32) (mt : Nat → Int32) (mo : Nat → Int32) (mk : Int32) (mr : Nat → Int64) (my : Nat → Int32) (mb : Nat → Int64) (mf : Nat → Int32) (f : Int32 → Int32 → Int32 → Int32 → Int32 → (Nat → Int32) → Option (Int32)) : Prop := ∀ (x3 : Int32) (x4 : Int32) (x5 : Int32) (y0 : Int32) (y1 : Int32) (ml : Nat → Int32) (r : Int32), f x3 x4 x5 y0 y1 ml = some r → ∀ (H : Heap) (locs : List Loc) (ls : Array Slot), va_P D classes (wM a k mh mn mc ms ml mm mt mo mk mr my mb mf) H → va_D A (wM a k mh mn mc ms ml mm mt mo mk mr my mb mf) → va_S A s.heap H locs → lv_has ls 9 [(0, .ref (a 20)), (3, .int x3), (4, .int x4), (5, .int x5)] → W p l e (rm_M_closing) s m args below meth c H locs 0 0 (MQ below (qc_M_closing D A a k mh mn mc ms ml mm mt mo mk mr my mb mf r) args s 0 0 A) (F0 m 56 ls [.int y0, .int y1])
def H_M_closing_41 (p : Program) (l : Launch) (e : Env) (s : State) (m : MethodId) (args : Array Value) (below : List Frame) (meth : Method) (c : Code) (D : va_G) (A : Nat → Prop) (a : Nat → Nat) (k : Nat → ClassId) (mh : Int32) (mn : Int32) (mc : Int32) (ms : Nat → Int32) (mm : Nat → Int32) (mt : Nat → Int32) (mo : Nat → Int32) (mk : Int32) (mr : Nat → Int64) (my : Nat → Int32) (mb : Nat → Int64) (mf : Nat → Int32) (f : Int32 → Int32 → Int32 → Int32 → Int32 → Int32 → (Nat → Int32) → Option (Int32)) : Prop := ∀ (x1 : Int32) (x2 : Int32) (x3 : Int32) (x4 : Int32) (y0 : Int32) (y1 : Int32) (ml : Nat → Int32) (r : Int32), f x1 x2 x3 x4 y0 y1 ml = some r → ∀ (H : Heap) (locs : List Loc) (ls : Array Slot), va_P D classes (wM a k mh mn mc ms ml mm mt mo mk mr my mb mf) H → va_D A (wM a k mh mn mc ms ml mm mt mo mk mr my mb mf) → va_S A s.heap H locs → lv_has ls 9 [(0, .ref (a 20)), (1, .int x1), (2, .int x2), (3, .int x3), (4, .int x4)] → W p l e (rm_M_closing) s m args below meth c H locs 0 0 (MQ below (qc_M_closing D A a k mh mn mc ms ml mm mt mo mk mr my mb mf r) args s 0 0 A) (F0 m 41 ls [.int y0, .int y1])
def H_M_closing_26 (p : Program) (l : Launch) (e : Env) (s : State) (m : MethodId) (args : Array Value) (below : List Frame) (meth : Method) (c : Code) (D : va_G) (A : Nat → Prop) (a : Nat → Nat) (k : Nat → ClassId) (mh : Int32) (mn : Int32) (mc : Int32) (ms : Nat → Int32) (mm : Nat → Int32) (mt : Nat → Int32) (mo : Nat → Int32) (mk : Int32) (mr : Nat → Int64) (my : Nat → Int32) (mb : Nat → Int64) (mf : Nat → Int32) (f : Int32 → Int32 → Int32 → Int32 → Int32 → (Nat → Int32) → Option (Int32)) : Prop := ∀ (x1 : Int32) (x2 : Int32) (x3 : Int32) (y0 : Int32) (y1 : Int32) (ml : Nat → Int32) (r : Int32), f x1 x2 x3 y0 y1 ml = some r → ∀ (H : Heap) (locs : List Loc) (ls : Array Slot), va_P D classes (wM a k mh mn mc ms ml mm mt mo mk mr my mb mf) H → va_D A (wM a k mh mn mc ms ml mm mt mo mk mr my mb mf) → va_S A s.heap H locs → lv_has ls 9 [(0, .ref (a 20)), (1, .int x1), (2, .int x2), (3, .int x3)] → W p l e (rm_M_closing) s m args below meth c H locs 0 0 (MQ below (qc_M_closing D A a k mh mn mc ms ml mm mt mo mk mr my mb mf r) args s 0 0 A) (F0 m 26 ls [.int y0, .int y1])
def H_M_closing_12 (p : Program) (l : Launch) (e : Env) (s : State) (m : MethodId) (args : Array Value) (below : List Frame) (meth : Method) (c : Code) (D : va_G) (A : Nat → Prop) (a : Nat → Nat) (k : Nat → ClassId) (mh : Int32) (mn : Int32) (mc : Int32) (ms : Nat → Int32) (mm : Nat → Int32) (mt : Nat → Int32) (mo : Nat → Int32) (mk : Int32) (mr : Nat → Int64) (my : Nat → Int32) (mb : Nat → Int64) (mf : Nat → Int32) (f : Int32 → Int32 → Int32 → Int32 → (Nat → Int32) → Option (Int32)) : Prop := ∀ (x1 : Int32) (x2 : Int32) (y0 : Int32) (y1 : Int32) (ml : Nat → Int32) (r : Int32), f x1 x2 y0 y1 ml = some r → ∀ (H : Heap) (locs : List Loc) (ls : Array Slot), va_P D classes (wM a k mh mn mc ms ml mm mt mo mk mr my mb mf) H → va_D A (wM a k mh mn mc ms ml mm mt mo mk mr my mb mf) → va_S A s.heap H locs → lv_has ls 9 [(0, .ref (a 20)), (1, .int x1), (2, .int x2)] → W p l e (rm_M_closing) s m args below meth c H locs 0 0 (MQ below (qc_M_closing D A a k mh mn mc ms ml mm mt mo mk mr my mb mf r) args s 0 0 A) (F0 m 12 ls [.int y0, .int y1])
def H_M_closing_0 (p : Program) (l : Launch) (e : Env) (s : State) (m : MethodId) (args : Array Value) (below : List Frame) (meth : Method) (c : Code) (D : va_G) (A : Nat → Prop) (a : Nat → Nat) (k : Nat → ClassId) (mh : Int32) (mn : Int32) (mc : Int32) (ms : Nat → Int32) (mm : Nat → Int32) (mt : Nat → Int32) (mo : Nat → Int32) (mk : Int32) (mr : Nat → Int64) (my : Nat → Int32) (mb : Nat → Int64) (mf : Nat → Int32) (f : Int32 → Int32 → (Nat → Int32) → Option (Int32)) : Prop := ∀ (x1 : Int32) (x2 : Int32) (ml : Nat → Int32) (r : Int32), f x1 x2 ml = some r → ∀ (H : Heap) (locs : List Loc) (ls : Array Slot), va_P D classes (wM a k mh mn mc ms ml mm mt mo mk mr my mb mf) H → va_D A (wM a k mh mn mc ms ml mm mt mo mk mr my mb mf) → va_S A s.heap H locs → lv_has ls 9 [(0, .ref (a 20)), (1, .int x1), (2, .int x2)] → W p l e (rm_M_closing) s m args below meth c H locs 0 0 (MQ below (qc_M_closing D A a k mh mn mc ms ml mm mt mo mk mr my mb mf r) args s 0 0 A) (F0 m 0 ls [])
set_option maxHeartbeats 4000000 in
set_option maxRecDepth 100000 in
theorem k_M_closing_176 {p : Program} {l : Launch} {e : Env} {s : State} {m : MethodId} {args : Array Value} {below : List Frame} {meth : Method} {c : Code} {D : va_G} {A : Nat → Prop} {a : Nat → Nat} {k : Nat → ClassId} {mh : Int32} {mn : Int32} {mc : Int32} {ms : Nat → Int32} {mm : Nat → Int32} {mt : Nat → Int32} {mo : Nat → Int32} {mk : Int32} {mr : Nat → Int64} {my : Nat → Int32} {mb : Nat → Int64} {mf : Nat → Int32} (C : cx D [(k 21, .int), (k 22, .int), (k 23, .int), (k 24, .boolean), (k 25, .boolean), (k 26, .long), (k 27, .int), (k 28, .long), (k 29, .int)] R_M b_M_closing 9 (some .int) A p s m args meth c) : H_M_closing_176 p l e s m args below meth c D A a k mh mn mc ms mm mt mo mk mr my mb mf (J_M_closing_176) := by
  obtain ⟨hx, hb, hr, hml, hown, ht, hlk, hA, hK⟩ := id C
  intro x7 y0 ml r h H locs ls hP hD hS hl
  unfold J_M_closing_176 at h
  refine lv_istore (lv' := [(8, .int y0), (7, .int x7)]) hx hb d_M_closing_176 hl (by decide) rfl (fun ls hl => ?_)
  refine lv_iload hx hb d_M_closing_178 (lv_at hl 1 rfl) ?_
  refine lv_if_ne (tgt := 192) hx hb d_M_closing_180 (by decide) (fun c_1 => ?_) (fun c_1 => ?_)
  · have h := ite_F c_1 h
    refine lv_iload hx hb d_M_closing_192 (lv_at hl 1 rfl) ?_
    cases h
    exact W.iret hx hb hr (fun t ht hW => ⟨⟨_, (), rfl, rfl, by rw [ht]; exact hP, va_K.moved hW.alike hK, hD⟩, hS.F ht⟩) hS.2.2 d_M_closing_194 hlk
  · have h := ite_T c_1 h
    refine lv_iload hx hb d_M_closing_183 (lv_at hl 0 rfl) ?_
    refine lv_if_eq (tgt := 192) hx hb d_M_closing_185 (by decide) (fun c_2 => ?_) (fun c_2 => ?_)
    · have h := ite_T c_2 h
      refine lv_iload hx hb d_M_closing_192 (lv_at hl 1 rfl) ?_
      cases h
      exact W.iret hx hb hr (fun t ht hW => ⟨⟨_, (), rfl, rfl, by rw [ht]; exact hP, va_K.moved hW.alike hK, hD⟩, hS.F ht⟩) hS.2.2 d_M_closing_194 hlk
    · have h := ite_F c_2 h
      refine lv_iconst (v := 1) hx hb d_M_closing_188 (by decide) ?_
      refine lv_goto (tgt := 194) hx hb d_M_closing_189 (by decide) ?_
      cases h
      exact W.iret hx hb hr (fun t ht hW => ⟨⟨_, (), rfl, rfl, by rw [ht]; exact hP, va_K.moved hW.alike hK, hD⟩, hS.F ht⟩) hS.2.2 d_M_closing_194 hlk
set_option maxHeartbeats 4000000 in
set_option maxRecDepth 100000 in
theorem k_M_closing_171 {p : Program} {l : Launch} {e : Env} {s : State} {m : MethodId} {args : Array Value} {below : List Frame} {meth : Method} {c : Code} {D : va_G} {A : Nat → Prop} {a : Nat → Nat} {k : Nat → ClassId} {mh : Int32} {mn : Int32} {mc : Int32} {ms : Nat → Int32} {mm : Nat → Int32} {mt : Nat → Int32} {mo : Nat → Int32} {mk : Int32} {mr : Nat → Int64} {my : Nat → Int32} {mb : Nat → Int64} {mf : Nat → Int32} (C : cx D [(k 21, .int), (k 22, .int), (k 23, .int), (k 24, .boolean), (k 25, .boolean), (k 26, .long), (k 27, .int), (k 28, .long), (k 29, .int)] R_M b_M_closing 9 (some .int) A p s m args meth c) : H_M_closing_171 p l e s m args below meth c D A a k mh mn mc ms mm mt mo mk mr my mb mf (J_M_closing_171) := by
  obtain ⟨hx, hb, hr, hml, hown, ht, hlk, hA, hK⟩ := id C
  intro x7 ml r h H locs ls hP hD hS hl
  unfold J_M_closing_171 at h
  refine lv_iconst (v := 1) hx hb d_M_closing_171 (by decide) ?_
  refine lv_goto (tgt := 176) hx hb d_M_closing_172 (by decide) ?_
  exact (k_M_closing_176 C) _ _ _ _ h _ _ _ hP hD hS (lv_sub hl [0] rfl)
set_option maxHeartbeats 4000000 in
set_option maxRecDepth 100000 in
theorem k_M_closing_175 {p : Program} {l : Launch} {e : Env} {s : State} {m : MethodId} {args : Array Value} {below : List Frame} {meth : Method} {c : Code} {D : va_G} {A : Nat → Prop} {a : Nat → Nat} {k : Nat → ClassId} {mh : Int32} {mn : Int32} {mc : Int32} {ms : Nat → Int32} {mm : Nat → Int32} {mt : Nat → Int32} {mo : Nat → Int32} {mk : Int32} {mr : Nat → Int64} {my : Nat → Int32} {mb : Nat → Int64} {mf : Nat → Int32} (C : cx D [(k 21, .int), (k 22, .int), (k 23, .int), (k 24, .boolean), (k 25, .boolean), (k 26, .long), (k 27, .int), (k 28, .long), (k 29, .int)] R_M b_M_closing 9 (some .int) A p s m args meth c) : H_M_closing_175 p l e s m args below meth c D A a k mh mn mc ms mm mt mo mk mr my mb mf (J_M_closing_175) := by
  obtain ⟨hx, hb, hr, hml, hown, ht, hlk, hA, hK⟩ := id C
  intro x7 ml r h H locs ls hP hD hS hl
  unfold J_M_closing_175 at h
  refine lv_iconst (v := 0) hx hb d_M_closing_175 (by decide) ?_
  exact (k_M_closing_176 C) _ _ _ _ h _ _ _ hP hD hS (lv_sub hl [0] rfl)
set_option maxHeartbeats 4000000 in
set_option maxRecDepth 100000 in
theorem k_M_closing_138 {p : Program} {l : Launch} {e : Env} {s : State} {m : MethodId} {args : Array Value} {below : List Frame} {meth : Method} {c : Code} {D : va_G} {A : Nat → Prop} {a : Nat → Nat} {k : Nat → ClassId} {mh : Int32} {mn : Int32} {mc : Int32} {ms : Nat → Int32} {mm : Nat → Int32} {mt : Nat → Int32} {mo : Nat → Int32} {mk : Int32} {mr : Nat → Int64} {my : Nat → Int32} {mb : Nat → Int64} {mf : Nat → Int32} (C : cx D [(k 21, .int), (k 22, .int), (k 23, .int), (k 24, .boolean), (k 25, .boolean), (k 26, .long), (k 27, .int), (k 28, .long), (k 29, .int)] R_M b_M_closing 9 (some .int) A p s m args meth c) : H_M_closing_138 p l e s m args below meth c D A a k mh mn mc ms mm mt mo mk mr my mb mf (J_M_closing_138) := by
  obtain ⟨hx, hb, hr, hml, hown, ht, hlk, hA, hK⟩ := id C
  intro x3 x4 x5 x6 x7 ml r h H locs ls hP hD hS hl
  unfold J_M_closing_138 at h
  refine lv_aload_n hx hb d_M_closing_138 rfl (lv_at hl 0 rfl) ?_
  refine va_get (D := D) (ci := 3) (v := .ref (a 22)) (C := R_M) (T := F_M) (N := 13) hx hb ht iC_M hown hK hP 0 rfl rfl 4 (by decide) (ht _ ix_164) (fun _ h9 => h9) rfl d_M_closing_139 ?_
  refine lv_iload_n hx hb d_M_closing_142 rfl (lv_at hl 1 rfl) ?_
  obtain ⟨g_1, h⟩ := gd_some h
  refine va_iald hx hb hK hP 2 1 rfl rfl (inb_in g_1) d_M_closing_143 ?_
  refine lv_aload_n hx hb d_M_closing_144 rfl (lv_at hl 0 rfl) ?_
  refine va_get (D := D) (ci := 3) (v := .ref (a 22)) (C := R_M) (T := F_M) (N := 13) hx hb ht iC_M hown hK hP 0 rfl rfl 4 (by decide) (ht _ ix_164) (fun _ h9 => h9) rfl d_M_closing_145 ?_
  refine lv_iload hx hb d_M_closing_148 (lv_at hl 4 rfl) ?_
  obtain ⟨g_2, h⟩ := gd_some h
  refine va_iald hx hb hK hP 2 1 rfl rfl (inb_in g_2) d_M_closing_150 ?_
  refine lv_icmp_ne (tgt := 175) hx hb d_M_closing_151 (by decide) (fun c_3 => ?_) (fun c_3 => ?_)
  · have h := ite_F c_3 h
    exact (k_M_closing_175 C) _ _ _ h _ _ _ hP hD hS (lv_sub hl [5] rfl)
  · have h := ite_T c_3 h
    refine lv_aload_n hx hb d_M_closing_154 rfl (lv_at hl 0 rfl) ?_
    refine va_get (D := D) (ci := 3) (v := .ref (a 22)) (C := R_M) (T := F_M) (N := 13) hx hb ht iC_M hown hK hP 0 rfl rfl 4 (by decide) (ht _ ix_164) (fun _ h9 => h9) rfl d_M_closing_155 ?_
    refine lv_iload hx hb d_M_closing_158 (lv_at hl 2 rfl) ?_
    obtain ⟨g_4, h⟩ := gd_some h
    refine va_iald hx hb hK hP 2 1 rfl rfl (inb_in g_4) d_M_closing_160 ?_
    refine lv_aload_n hx hb d_M_closing_161 rfl (lv_at hl 0 rfl) ?_
    refine va_get (D := D) (ci := 3) (v := .ref (a 22)) (C := R_M) (T := F_M) (N := 13) hx hb ht iC_M hown hK hP 0 rfl rfl 4 (by decide) (ht _ ix_164) (fun _ h9 => h9) rfl d_M_closing_162 ?_
    refine lv_iload hx hb d_M_closing_165 (lv_at hl 3 rfl) ?_
    obtain ⟨g_5, h⟩ := gd_some h
    refine va_iald hx hb hK hP 2 1 rfl rfl (inb_in g_5) d_M_closing_167 ?_
    refine lv_icmp_ne (tgt := 175) hx hb d_M_closing_168 (by decide) (fun c_6 => ?_) (fun c_6 => ?_)
    · have h := ite_F c_6 h
      exact (k_M_closing_175 C) _ _ _ h _ _ _ hP hD hS (lv_sub hl [5] rfl)
    · have h := ite_T c_6 h
      exact (k_M_closing_171 C) _ _ _ h _ _ _ hP hD hS (lv_sub hl [5] rfl)
set_option maxHeartbeats 4000000 in
set_option maxRecDepth 100000 in
theorem k_M_closing_102 {p : Program} {l : Launch} {e : Env} {s : State} {m : MethodId} {args : Array Value} {below : List Frame} {meth : Method} {c : Code} {D : va_G} {A : Nat → Prop} {a : Nat → Nat} {k : Nat → ClassId} {mh : Int32} {mn : Int32} {mc : Int32} {ms : Nat → Int32} {mm : Nat → Int32} {mt : Nat → Int32} {mo : Nat → Int32} {mk : Int32} {mr : Nat → Int64} {my : Nat → Int32} {mb : Nat → Int64} {mf : Nat → Int32} (C : cx D [(k 21, .int), (k 22, .int), (k 23, .int), (k 24, .boolean), (k 25, .boolean), (k 26, .long), (k 27, .int), (k 28, .long), (k 29, .int)] R_M b_M_closing 9 (some .int) A p s m args meth c) : H_M_closing_102 p l e s m args below meth c D A a k mh mn mc ms mm mt mo mk mr my mb mf (J_M_closing_102) := by
  obtain ⟨hx, hb, hr, hml, hown, ht, hlk, hA, hK⟩ := id C
  intro x3 x4 x5 x6 y0 y1 ml r h H locs ls hP hD hS hl
  unfold J_M_closing_102 at h
  refine lv_iadd hx hb d_M_closing_102 ?_
  refine lv_istore (lv' := [(7, .int (y1 + y0)), (0, .ref (a 20)), (3, .int x3), (4, .int x4), (5, .int x5), (6, .int x6)]) hx hb d_M_closing_103 hl (by decide) rfl (fun ls hl => ?_)
  refine lv_aload_n hx hb d_M_closing_105 rfl (lv_at hl 1 rfl) ?_
  refine va_get (D := D) (ci := 3) (v := .ref (a 22)) (C := R_M) (T := F_M) (N := 13) hx hb ht iC_M hown hK hP 0 rfl rfl 4 (by decide) (ht _ ix_164) (fun _ h9 => h9) rfl d_M_closing_106 ?_
  refine lv_iload_n hx hb d_M_closing_109 rfl (lv_at hl 2 rfl) ?_
  obtain ⟨g_1, h⟩ := gd_some h
  refine va_iald hx hb hK hP 2 1 rfl rfl (inb_in g_1) d_M_closing_110 ?_
  refine lv_aload_n hx hb d_M_closing_111 rfl (lv_at hl 1 rfl) ?_
  refine va_get (D := D) (ci := 3) (v := .ref (a 22)) (C := R_M) (T := F_M) (N := 13) hx hb ht iC_M hown hK hP 0 rfl rfl 4 (by decide) (ht _ ix_164) (fun _ h9 => h9) rfl d_M_closing_112 ?_
  refine lv_iload hx hb d_M_closing_115 (lv_at hl 4 rfl) ?_
  obtain ⟨g_2, h⟩ := gd_some h
  refine va_iald hx hb hK hP 2 1 rfl rfl (inb_in g_2) d_M_closing_117 ?_
  refine lv_icmp_ne (tgt := 138) hx hb d_M_closing_118 (by decide) (fun c_3 => ?_) (fun c_3 => ?_)
  · have h := ite_F c_3 h
    exact (k_M_closing_138 C) _ _ _ _ _ _ _ h _ _ _ hP hD hS (lv_sub hl [1, 2, 3, 4, 5, 0] rfl)
  · have h := ite_T c_3 h
    refine lv_aload_n hx hb d_M_closing_121 rfl (lv_at hl 1 rfl) ?_
    refine va_get (D := D) (ci := 3) (v := .ref (a 22)) (C := R_M) (T := F_M) (N := 13) hx hb ht iC_M hown hK hP 0 rfl rfl 4 (by decide) (ht _ ix_164) (fun _ h9 => h9) rfl d_M_closing_122 ?_
    refine lv_iload hx hb d_M_closing_125 (lv_at hl 3 rfl) ?_
    obtain ⟨g_4, h⟩ := gd_some h
    refine va_iald hx hb hK hP 2 1 rfl rfl (inb_in g_4) d_M_closing_127 ?_
    refine lv_aload_n hx hb d_M_closing_128 rfl (lv_at hl 1 rfl) ?_
    refine va_get (D := D) (ci := 3) (v := .ref (a 22)) (C := R_M) (T := F_M) (N := 13) hx hb ht iC_M hown hK hP 0 rfl rfl 4 (by decide) (ht _ ix_164) (fun _ h9 => h9) rfl d_M_closing_129 ?_
    refine lv_iload hx hb d_M_closing_132 (lv_at hl 5 rfl) ?_
    obtain ⟨g_5, h⟩ := gd_some h
    refine va_iald hx hb hK hP 2 1 rfl rfl (inb_in g_5) d_M_closing_134 ?_
    refine lv_icmp_eq (tgt := 171) hx hb d_M_closing_135 (by decide) (fun c_6 => ?_) (fun c_6 => ?_)
    · have h := ite_T c_6 h
      exact (k_M_closing_171 C) _ _ _ h _ _ _ hP hD hS (lv_sub hl [0] rfl)
    · have h := ite_F c_6 h
      exact (k_M_closing_138 C) _ _ _ _ _ _ _ h _ _ _ hP hD hS (lv_sub hl [1, 2, 3, 4, 5, 0] rfl)
set_option maxHeartbeats 4000000 in
set_option maxRecDepth 100000 in
theorem k_M_closing_80 {p : Program} {l : Launch} {e : Env} {s : State} {m : MethodId} {args : Array Value} {below : List Frame} {meth : Method} {c : Code} {D : va_G} {A : Nat → Prop} {a : Nat → Nat} {k : Nat → ClassId} {mh : Int32} {mn : Int32} {mc : Int32} {ms : Nat → Int32} {mm : Nat → Int32} {mt : Nat → Int32} {mo : Nat → Int32} {mk : Int32} {mr : Nat → Int64} {my : Nat → Int32} {mb : Nat → Int64} {mf : Nat → Int32} (C : cx D [(k 21, .int), (k 22, .int), (k 23, .int), (k 24, .boolean), (k 25, .boolean), (k 26, .long), (k 27, .int), (k 28, .long), (k 29, .int)] R_M b_M_closing 9 (some .int) A p s m args meth c) : H_M_closing_80 p l e s m args below meth c D A a k mh mn mc ms mm mt mo mk mr my mb mf (J_M_closing_80) := by
  obtain ⟨hx, hb, hr, hml, hown, ht, hlk, hA, hK⟩ := id C
  intro x3 x4 x5 x6 y0 ml r h H locs ls hP hD hS hl
  unfold J_M_closing_80 at h
  refine lv_aload_n hx hb d_M_closing_80 rfl (lv_at hl 0 rfl) ?_
  refine va_get (D := D) (ci := 3) (v := .ref (a 22)) (C := R_M) (T := F_M) (N := 13) hx hb ht iC_M hown hK hP 0 rfl rfl 4 (by decide) (ht _ ix_164) (fun _ h9 => h9) rfl d_M_closing_81 ?_
  refine lv_iload hx hb d_M_closing_84 (lv_at hl 3 rfl) ?_
  obtain ⟨g_1, h⟩ := gd_some h
  refine va_iald hx hb hK hP 2 1 rfl rfl (inb_in g_1) d_M_closing_86 ?_
  refine lv_aload_n hx hb d_M_closing_87 rfl (lv_at hl 0 rfl) ?_
  refine va_get (D := D) (ci := 3) (v := .ref (a 22)) (C := R_M) (T := F_M) (N := 13) hx hb ht iC_M hown hK hP 0 rfl rfl 4 (by decide) (ht _ ix_164) (fun _ h9 => h9) rfl d_M_closing_88 ?_
  refine lv_iload hx hb d_M_closing_91 (lv_at hl 4 rfl) ?_
  obtain ⟨g_2, h⟩ := gd_some h
  refine va_iald hx hb hK hP 2 1 rfl rfl (inb_in g_2) d_M_closing_93 ?_
  refine lv_icmp_ne (tgt := 101) hx hb d_M_closing_94 (by decide) (fun c_3 => ?_) (fun c_3 => ?_)
  · have h := ite_F c_3 h
    refine lv_iconst (v := 0) hx hb d_M_closing_101 (by decide) ?_
    exact (k_M_closing_102 C) _ _ _ _ _ _ _ _ h _ _ _ hP hD hS (lv_sub hl [0, 1, 2, 3, 4] rfl)
  · have h := ite_T c_3 h
    refine lv_iconst (v := 1) hx hb d_M_closing_97 (by decide) ?_
    refine lv_goto (tgt := 102) hx hb d_M_closing_98 (by decide) ?_
    exact (k_M_closing_102 C) _ _ _ _ _ _ _ _ h _ _ _ hP hD hS (lv_sub hl [0, 1, 2, 3, 4] rfl)
set_option maxHeartbeats 4000000 in
set_option maxRecDepth 100000 in
theorem k_M_closing_56 {p : Program} {l : Launch} {e : Env} {s : State} {m : MethodId} {args : Array Value} {below : List Frame} {meth : Method} {c : Code} {D : va_G} {A : Nat → Prop} {a : Nat → Nat} {k : Nat → ClassId} {mh : Int32} {mn : Int32} {mc : Int32} {ms : Nat → Int32} {mm : Nat → Int32} {mt : Nat → Int32} {mo : Nat → Int32} {mk : Int32} {mr : Nat → Int64} {my : Nat → Int32} {mb : Nat → Int64} {mf : Nat → Int32} (C : cx D [(k 21, .int), (k 22, .int), (k 23, .int), (k 24, .boolean), (k 25, .boolean), (k 26, .long), (k 27, .int), (k 28, .long), (k 29, .int)] R_M b_M_closing 9 (some .int) A p s m args meth c) : H_M_closing_56 p l e s m args below meth c D A a k mh mn mc ms mm mt mo mk mr my mb mf (J_M_closing_56) := by
  obtain ⟨hx, hb, hr, hml, hown, ht, hlk, hA, hK⟩ := id C
  intro x3 x4 x5 y0 y1 ml r h H locs ls hP hD hS hl
  unfold J_M_closing_56 at h
  refine lv_iadd hx hb d_M_closing_56 ?_
  refine lv_istore (lv' := [(6, .int (y1 + y0)), (0, .ref (a 20)), (3, .int x3), (4, .int x4), (5, .int x5)]) hx hb d_M_closing_57 hl (by decide) rfl (fun ls hl => ?_)
  refine lv_aload_n hx hb d_M_closing_59 rfl (lv_at hl 1 rfl) ?_
  refine va_get (D := D) (ci := 3) (v := .ref (a 22)) (C := R_M) (T := F_M) (N := 13) hx hb ht iC_M hown hK hP 0 rfl rfl 4 (by decide) (ht _ ix_164) (fun _ h9 => h9) rfl d_M_closing_60 ?_
  refine lv_iload_n hx hb d_M_closing_63 rfl (lv_at hl 2 rfl) ?_
  obtain ⟨g_1, h⟩ := gd_some h
  refine va_iald hx hb hK hP 2 1 rfl rfl (inb_in g_1) d_M_closing_64 ?_
  refine lv_aload_n hx hb d_M_closing_65 rfl (lv_at hl 1 rfl) ?_
  refine va_get (D := D) (ci := 3) (v := .ref (a 22)) (C := R_M) (T := F_M) (N := 13) hx hb ht iC_M hown hK hP 0 rfl rfl 4 (by decide) (ht _ ix_164) (fun _ h9 => h9) rfl d_M_closing_66 ?_
  refine lv_iload hx hb d_M_closing_69 (lv_at hl 3 rfl) ?_
  obtain ⟨g_2, h⟩ := gd_some h
  refine va_iald hx hb hK hP 2 1 rfl rfl (inb_in g_2) d_M_closing_71 ?_
  refine lv_icmp_ne (tgt := 79) hx hb d_M_closing_72 (by decide) (fun c_3 => ?_) (fun c_3 => ?_)
  · have h := ite_F c_3 h
    refine lv_iconst (v := 0) hx hb d_M_closing_79 (by decide) ?_
    exact (k_M_closing_80 C) _ _ _ _ _ _ _ h _ _ _ hP hD hS (lv_sub hl [1, 2, 3, 4, 0] rfl)
  · have h := ite_T c_3 h
    refine lv_iconst (v := 1) hx hb d_M_closing_75 (by decide) ?_
    refine lv_goto (tgt := 80) hx hb d_M_closing_76 (by decide) ?_
    exact (k_M_closing_80 C) _ _ _ _ _ _ _ h _ _ _ hP hD hS (lv_sub hl [1, 2, 3, 4, 0] rfl)
set_option maxHeartbeats 4000000 in
set_option maxRecDepth 100000 in
theorem k_M_closing_41 {p : Program} {l : Launch} {e : Env} {s : State} {m : MethodId} {args : Array Value} {below : List Frame} {meth : Method} {c : Code} {D : va_G} {A : Nat → Prop} {a : Nat → Nat} {k : Nat → ClassId} {mh : Int32} {mn : Int32} {mc : Int32} {ms : Nat → Int32} {mm : Nat → Int32} {mt : Nat → Int32} {mo : Nat → Int32} {mk : Int32} {mr : Nat → Int64} {my : Nat → Int32} {mb : Nat → Int64} {mf : Nat → Int32} (C : cx D [(k 21, .int), (k 22, .int), (k 23, .int), (k 24, .boolean), (k 25, .boolean), (k 26, .long), (k 27, .int), (k 28, .long), (k 29, .int)] R_M b_M_closing 9 (some .int) A p s m args meth c) : H_M_closing_41 p l e s m args below meth c D A a k mh mn mc ms mm mt mo mk mr my mb mf (J_M_closing_41) := by
  obtain ⟨hx, hb, hr, hml, hown, ht, hlk, hA, hK⟩ := id C
  intro x1 x2 x3 x4 y0 y1 ml r h H locs ls hP hD hS hl
  unfold J_M_closing_41 at h
  refine lv_iadd hx hb d_M_closing_41 ?_
  refine lv_istore (lv' := [(5, .int (y1 + y0)), (0, .ref (a 20)), (1, .int x1), (2, .int x2), (3, .int x3), (4, .int x4)]) hx hb d_M_closing_42 hl (by decide) rfl (fun ls hl => ?_)
  refine lv_iconst (v := 4) hx hb d_M_closing_44 (by decide) ?_
  refine lv_iload_n hx hb d_M_closing_45 rfl (lv_at hl 2 rfl) ?_
  refine lv_imul hx hb d_M_closing_46 ?_
  refine lv_iload_n hx hb d_M_closing_47 rfl (lv_at hl 3 rfl) ?_
  refine lv_if_eq (tgt := 55) hx hb d_M_closing_48 (by decide) (fun c_1 => ?_) (fun c_1 => ?_)
  · have h := ite_T c_1 h
    refine lv_iconst (v := 0) hx hb d_M_closing_55 (by decide) ?_
    exact (k_M_closing_56 C) _ _ _ _ _ _ _ h _ _ _ hP hD hS (lv_sub hl [1, 4, 5, 0] rfl)
  · have h := ite_F c_1 h
    refine lv_iconst (v := 3) hx hb d_M_closing_51 (by decide) ?_
    refine lv_goto (tgt := 56) hx hb d_M_closing_52 (by decide) ?_
    exact (k_M_closing_56 C) _ _ _ _ _ _ _ h _ _ _ hP hD hS (lv_sub hl [1, 4, 5, 0] rfl)
set_option maxHeartbeats 4000000 in
set_option maxRecDepth 100000 in
theorem k_M_closing_26 {p : Program} {l : Launch} {e : Env} {s : State} {m : MethodId} {args : Array Value} {below : List Frame} {meth : Method} {c : Code} {D : va_G} {A : Nat → Prop} {a : Nat → Nat} {k : Nat → ClassId} {mh : Int32} {mn : Int32} {mc : Int32} {ms : Nat → Int32} {mm : Nat → Int32} {mt : Nat → Int32} {mo : Nat → Int32} {mk : Int32} {mr : Nat → Int64} {my : Nat → Int32} {mb : Nat → Int64} {mf : Nat → Int32} (C : cx D [(k 21, .int), (k 22, .int), (k 23, .int), (k 24, .boolean), (k 25, .boolean), (k 26, .long), (k 27, .int), (k 28, .long), (k 29, .int)] R_M b_M_closing 9 (some .int) A p s m args meth c) : H_M_closing_26 p l e s m args below meth c D A a k mh mn mc ms mm mt mo mk mr my mb mf (J_M_closing_26) := by
  obtain ⟨hx, hb, hr, hml, hown, ht, hlk, hA, hK⟩ := id C
  intro x1 x2 x3 y0 y1 ml r h H locs ls hP hD hS hl
  unfold J_M_closing_26 at h
  refine lv_iadd hx hb d_M_closing_26 ?_
  refine lv_istore (lv' := [(4, .int (y1 + y0)), (0, .ref (a 20)), (1, .int x1), (2, .int x2), (3, .int x3)]) hx hb d_M_closing_27 hl (by decide) rfl (fun ls hl => ?_)
  refine lv_iconst (v := 4) hx hb d_M_closing_29 (by decide) ?_
  refine lv_iload_n hx hb d_M_closing_30 rfl (lv_at hl 2 rfl) ?_
  refine lv_imul hx hb d_M_closing_31 ?_
  refine lv_iload_n hx hb d_M_closing_32 rfl (lv_at hl 3 rfl) ?_
  refine lv_if_eq (tgt := 40) hx hb d_M_closing_33 (by decide) (fun c_1 => ?_) (fun c_1 => ?_)
  · have h := ite_T c_1 h
    refine lv_iconst (v := 3) hx hb d_M_closing_40 (by decide) ?_
    exact (k_M_closing_41 C) _ _ _ _ _ _ _ _ h _ _ _ hP hD hS (lv_sub hl [1, 2, 3, 4, 0] rfl)
  · have h := ite_F c_1 h
    refine lv_iconst (v := 2) hx hb d_M_closing_36 (by decide) ?_
    refine lv_goto (tgt := 41) hx hb d_M_closing_37 (by decide) ?_
    exact (k_M_closing_41 C) _ _ _ _ _ _ _ _ h _ _ _ hP hD hS (lv_sub hl [1, 2, 3, 4, 0] rfl)
set_option maxHeartbeats 4000000 in
set_option maxRecDepth 100000 in
theorem k_M_closing_12 {p : Program} {l : Launch} {e : Env} {s : State} {m : MethodId} {args : Array Value} {below : List Frame} {meth : Method} {c : Code} {D : va_G} {A : Nat → Prop} {a : Nat → Nat} {k : Nat → ClassId} {mh : Int32} {mn : Int32} {mc : Int32} {ms : Nat → Int32} {mm : Nat → Int32} {mt : Nat → Int32} {mo : Nat → Int32} {mk : Int32} {mr : Nat → Int64} {my : Nat → Int32} {mb : Nat → Int64} {mf : Nat → Int32} (C : cx D [(k 21, .int), (k 22, .int), (k 23, .int), (k 24, .boolean), (k 25, .boolean), (k 26, .long), (k 27, .int), (k 28, .long), (k 29, .int)] R_M b_M_closing 9 (some .int) A p s m args meth c) : H_M_closing_12 p l e s m args below meth c D A a k mh mn mc ms mm mt mo mk mr my mb mf (J_M_closing_12) := by
  obtain ⟨hx, hb, hr, hml, hown, ht, hlk, hA, hK⟩ := id C
  intro x1 x2 y0 y1 ml r h H locs ls hP hD hS hl
  unfold J_M_closing_12 at h
  refine lv_iadd hx hb d_M_closing_12 ?_
  refine lv_istore_n (lv' := [(3, .int (y1 + y0)), (0, .ref (a 20)), (1, .int x1), (2, .int x2)]) hx hb d_M_closing_13 rfl hl (by decide) rfl (fun ls hl => ?_)
  refine lv_iconst (v := 4) hx hb d_M_closing_14 (by decide) ?_
  refine lv_iload_n hx hb d_M_closing_15 rfl (lv_at hl 2 rfl) ?_
  refine lv_imul hx hb d_M_closing_16 ?_
  refine lv_iload_n hx hb d_M_closing_17 rfl (lv_at hl 3 rfl) ?_
  refine lv_if_eq (tgt := 25) hx hb d_M_closing_18 (by decide) (fun c_1 => ?_) (fun c_1 => ?_)
  · have h := ite_T c_1 h
    refine lv_iconst (v := 2) hx hb d_M_closing_25 (by decide) ?_
    exact (k_M_closing_26 C) _ _ _ _ _ _ _ h _ _ _ hP hD hS (lv_sub hl [1, 2, 3, 0] rfl)
  · have h := ite_F c_1 h
    refine lv_iconst (v := 1) hx hb d_M_closing_21 (by decide) ?_
    refine lv_goto (tgt := 26) hx hb d_M_closing_22 (by decide) ?_
    exact (k_M_closing_26 C) _ _ _ _ _ _ _ h _ _ _ hP hD hS (lv_sub hl [1, 2, 3, 0] rfl)
set_option maxHeartbeats 4000000 in
set_option maxRecDepth 100000 in
theorem k_M_closing_0 {p : Program} {l : Launch} {e : Env} {s : State} {m : MethodId} {args : Array Value} {below : List Frame} {meth : Method} {c : Code} {D : va_G} {A : Nat → Prop} {a : Nat → Nat} {k : Nat → ClassId} {mh : Int32} {mn : Int32} {mc : Int32} {ms : Nat → Int32} {mm : Nat → Int32} {mt : Nat → Int32} {mo : Nat → Int32} {mk : Int32} {mr : Nat → Int64} {my : Nat → Int32} {mb : Nat → Int64} {mf : Nat → Int32} (C : cx D [(k 21, .int), (k 22, .int), (k 23, .int), (k 24, .boolean), (k 25, .boolean), (k 26, .long), (k 27, .int), (k 28, .long), (k 29, .int)] R_M b_M_closing 9 (some .int) A p s m args meth c) : H_M_closing_0 p l e s m args below meth c D A a k mh mn mc ms mm mt mo mk mr my mb mf (J_M_closing_0) := by
  obtain ⟨hx, hb, hr, hml, hown, ht, hlk, hA, hK⟩ := id C
  intro x1 x2 ml r h H locs ls hP hD hS hl
  unfold J_M_closing_0 at h
  refine lv_iconst (v := 4) hx hb d_M_closing_0 (by decide) ?_
  refine lv_iload_n hx hb d_M_closing_1 rfl (lv_at hl 1 rfl) ?_
  refine lv_imul hx hb d_M_closing_2 ?_
  refine lv_iload_n hx hb d_M_closing_3 rfl (lv_at hl 2 rfl) ?_
  refine lv_if_eq (tgt := 11) hx hb d_M_closing_4 (by decide) (fun c_1 => ?_) (fun c_1 => ?_)
  · have h := ite_T c_1 h
    refine lv_iconst (v := 1) hx hb d_M_closing_11 (by decide) ?_
    exact (k_M_closing_12 C) _ _ _ _ _ _ h _ _ _ hP hD hS (lv_sub hl [0, 1, 2] rfl)
  · have h := ite_F c_1 h
    refine lv_iconst (v := 0) hx hb d_M_closing_7 (by decide) ?_
    refine lv_goto (tgt := 12) hx hb d_M_closing_8 (by decide) ?_
    exact (k_M_closing_12 C) _ _ _ _ _ _ h _ _ _ hP hD hS (lv_sub hl [0, 1, 2] rfl)
set_option maxRecDepth 20000 in
theorem c_M_closing (l : Launch) (D : va_G) (a : Nat → Nat) (k : Nat → ClassId) (sz : Nat) (x1 : Int32) (x2 : Int32) (mh : Int32) (mn : Int32) (mc : Int32) (ms : Nat → Int32) (ml : Nat → Int32) (mm : Nat → Int32) (mt : Nat → Int32) (mo : Nat → Int32) (mk : Int32) (mr : Nat → Int64) (my : Nat → Int32) (mb : Nat → Int64) (mf : Nat → Int32) (r : Int32) (h : F_M_closing x1 x2 ml = some r) : Met l y_M_closing (Cond.code y_M_closing b_M_closing 9 (some .int) :: lw_g) (rm_M_closing) (va_Pc [.ref (a 20), .int x1, .int x2] (pcW D [(k 21, .int), (k 22, .int), (k 23, .int), (k 24, .boolean), (k 25, .boolean), (k 26, .long), (k 27, .int), (k 28, .long), (k 29, .int)] (wM a k mh mn mc ms ml mm mt mo mk mr my mb mf) sz)) (qc_M_closing D (va_A (wM a k mh mn mc ms ml mm mt mo mk mr my mb mf) sz) a k mh mn mc ms ml mm mt mo mk mr my mb mf r) 0 0 (va_A (wM a k mh mn mc ms ml mm mt mo mk mr my mb mf) sz) := by
  refine Met.ofW (cc := b_M_closing) (maxL := 9) (ret := (some .int)) (by decide) rfl ?_
  intro p e s m args below meth c s₁ B hml hv
  obtain ⟨rfl, hsz, hP, hK, hD0⟩ := hv
  have hts := atoms_spec (ws := Cond.code y_M_closing b_M_closing 9 (some .int) :: lw_g) B.pre
  subst hsz
  have hD := hD0.self (sz := s.heap.size)
  have hl := lv_entry ([.ref (a 20), .int x1, .int x2]) (n := 9) (Nat.le_of_ble_eq_true rfl)
  rw [lg_entry_eq]
  generalize (lg_sl ([.ref (a 20), .int x1, .int x2]) ++ List.replicate (9 - (lg_sl ([.ref (a 20), .int x1, .int x2])).length) Slot.unset).toArray = ls at hl ⊢
  exact k_M_closing_0 ⟨B.exec, B.bytes, B.returns, hml, findClass_of_methodNamed B.named, fun w hw => hts w (List.mem_cons_of_mem _ hw), B.notSynchronized, fun q h => Or.inr h, hK⟩ _ _ _ _ h _ _ _ hP hD va_S.rf hl
