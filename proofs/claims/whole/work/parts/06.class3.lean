def rm_B_tallyFrom (dp : Nat) : Room := { frames := dp + 2, cells := 0, slots := 0, locals := dp * 26 + 47 }
def qc_B_tallyFrom (D : va_G) (A : Nat → Prop) (a : Nat → Nat) (k : Nat → ClassId) (lab : Nat → Int32) (sg : Nat → Int32) (cc : Int32) (ci : Int32) (od : Nat → Int32) (sd : Nat → Int32) (go : Nat → Int32) (we : Int32) (fp : Nat → Int32) (ro : Nat → Int64) (sp : Nat → Int64) (qr : Nat) (qs : Nat) (r : (Nat → Int32) × (Nat → Int32)) : Array Value → State → Outcome → State → Prop := va_Qv (fun (_ : Unit) => True) (poW D [(k 1, .int), (k 2, .int), (k 3, .int), (k 4, .int), (k 5, .boolean), (k 6, .int), (k 8, .int), (k 9, .int), (k 11, .long)] (wB a k lab sg cc ci od sd go r.1 we r.2 fp ro sp qr qs) A) A
def J_B_tallyFrom_0 (recF : Int32 → Int32 → Int32 → Int32 → (Nat → Int32) → (Nat → Int32) → (Nat → Int32) → Option ((Nat → Int32) × (Nat → Int32))) (x1 : Int32) (x2 : Int32) (x3 : Int32) (cc : Int32) (od : Nat → Int32) (ta : Nat → Int32) (oe : Nat → Int32) : Option ((Nat → Int32) × (Nat → Int32)) :=
  (if x1 < cc then (if inb x1 10 then (Option.bind (F_W_smooth (od x1.toNatClampNeg) (1 : Int32) oe) (fun v_3 => (Option.bind (recF (x1 + (1 : Int32)) (x2 + (1 : Int32)) (x3 + v_3.1) cc od ta v_3.2) (fun v_4 => (Option.bind (F_W_undo (od x1.toNatClampNeg) (1 : Int32) v_4.2) (fun v_5 => (Option.bind (F_W_smooth (od x1.toNatClampNeg) (0 : Int32) v_5) (fun v_6 => (Option.bind (recF (x1 + (1 : Int32)) x2 (x3 + v_6.1) cc od v_4.1 v_6.2) (fun v_7 => (Option.bind (F_W_undo (od x1.toNatClampNeg) (0 : Int32) v_7.2) (fun v_8 => some (v_7.1, v_8))))))))))))) else none) else (if inb ((x2 * (30 : Int32)) + x3) 330 then (if inb ((x2 * (30 : Int32)) + x3) 330 then some ((upd ta ((x2 * (30 : Int32)) + x3).toNatClampNeg ((ta ((x2 * (30 : Int32)) + x3).toNatClampNeg) + (1 : Int32))), oe) else none) else none))
def F_B_tallyFrom : Nat → Int32 → Int32 → Int32 → Int32 → (Nat → Int32) → (Nat → Int32) → (Nat → Int32) → Option ((Nat → Int32) × (Nat → Int32))
  | 0 => fun _ _ _ _ _ _ _ => none
  | n + 1 => J_B_tallyFrom_0 (F_B_tallyFrom n)
def CT_B_tallyFrom (l : Launch) (D : va_G) (a : Nat → Nat) (k : Nat → ClassId) (dp : Nat) (f : Int32 → Int32 → Int32 → Int32 → (Nat → Int32) → (Nat → Int32) → (Nat → Int32) → Option ((Nat → Int32) × (Nat → Int32))) : Prop := ∀ (sz : Nat) (x1 : Int32) (x2 : Int32) (x3 : Int32) (lab : Nat → Int32) (sg : Nat → Int32) (cc : Int32) (ci : Int32) (od : Nat → Int32) (sd : Nat → Int32) (go : Nat → Int32) (ta : Nat → Int32) (we : Int32) (oe : Nat → Int32) (fp : Nat → Int32) (ro : Nat → Int64) (sp : Nat → Int64) (qr : Nat) (qs : Nat) (r : (Nat → Int32) × (Nat → Int32)), f x1 x2 x3 cc od ta oe = some r → Met l y_B_tallyFrom (Cond.code y_B_tallyFrom b_B_tallyFrom 7 none :: lw_g) (rm_B_tallyFrom dp) (va_Pc [.ref (a 0), .int x1, .int x2, .int x3] (pcW D [(k 1, .int), (k 2, .int), (k 3, .int), (k 4, .int), (k 5, .boolean), (k 6, .int), (k 8, .int), (k 9, .int), (k 11, .long)] (wB a k lab sg cc ci od sd go ta we oe fp ro sp qr qs) sz)) (qc_B_tallyFrom D (va_A (wB a k lab sg cc ci od sd go ta we oe fp ro sp qr qs) sz) a k lab sg cc ci od sd go we fp ro sp qr qs r) 0 0 (va_A (wB a k lab sg cc ci od sd go ta we oe fp ro sp qr qs) sz)
def H_B_tallyFrom_0 (p : Program) (l : Launch) (e : Env) (s : State) (m : MethodId) (args : Array Value) (below : List Frame) (meth : Method) (c : Code) (D : va_G) (A : Nat → Prop) (a : Nat → Nat) (k : Nat → ClassId) (lab : Nat → Int32) (sg : Nat → Int32) (ci : Int32) (sd : Nat → Int32) (go : Nat → Int32) (we : Int32) (fp : Nat → Int32) (ro : Nat → Int64) (sp : Nat → Int64) (qr : Nat) (qs : Nat) (dp : Nat) (f : Int32 → Int32 → Int32 → Int32 → (Nat → Int32) → (Nat → Int32) → (Nat → Int32) → Option ((Nat → Int32) × (Nat → Int32))) : Prop := ∀ (x1 : Int32) (x2 : Int32) (x3 : Int32) (cc : Int32) (od : Nat → Int32) (ta : Nat → Int32) (oe : Nat → Int32) (r : (Nat → Int32) × (Nat → Int32)), f x1 x2 x3 cc od ta oe = some r → ∀ (H : Heap) (locs : List Loc) (ls : Array Slot), va_P D classes (wB a k lab sg cc ci od sd go ta we oe fp ro sp qr qs) H → va_D A (wB a k lab sg cc ci od sd go ta we oe fp ro sp qr qs) → va_S A s.heap H locs → lv_has ls 7 [(0, .ref (a 0)), (1, .int x1), (2, .int x2), (3, .int x3)] → W p l e (rm_B_tallyFrom (dp + 1)) s m args below meth c H locs 0 0 (MQ below (qc_B_tallyFrom D A a k lab sg cc ci od sd go we fp ro sp qr qs r) args s 0 0 A) (F0 m 0 ls [])
set_option maxHeartbeats 4000000 in
set_option maxRecDepth 100000 in
theorem k_B_tallyFrom_0 {p : Program} {l : Launch} {e : Env} {s : State} {m : MethodId} {args : Array Value} {below : List Frame} {meth : Method} {c : Code} {D : va_G} {A : Nat → Prop} {a : Nat → Nat} {k : Nat → ClassId} {lab : Nat → Int32} {sg : Nat → Int32} {ci : Int32} {sd : Nat → Int32} {go : Nat → Int32} {we : Int32} {fp : Nat → Int32} {ro : Nat → Int64} {sp : Nat → Int64} {qr : Nat} {qs : Nat} {dp : Nat} {recF : Int32 → Int32 → Int32 → Int32 → (Nat → Int32) → (Nat → Int32) → (Nat → Int32) → Option ((Nat → Int32) × (Nat → Int32))} (C : cx D [(k 1, .int), (k 2, .int), (k 3, .int), (k 4, .int), (k 5, .boolean), (k 6, .int), (k 8, .int), (k 9, .int), (k 11, .long)] R_B b_B_tallyFrom 7 none A p s m args meth c) (hrecF : CT_B_tallyFrom l D a k dp recF) : H_B_tallyFrom_0 p l e s m args below meth c D A a k lab sg ci sd go we fp ro sp qr qs dp (J_B_tallyFrom_0 recF) := by
  obtain ⟨hx, hb, hr, hml, hown, ht, hlk, hA, hK⟩ := id C
  intro x1 x2 x3 cc od ta oe r h H locs ls hP hD hS hl
  unfold J_B_tallyFrom_0 at h
  refine lv_iload_n hx hb d_B_tallyFrom_0 rfl (lv_at hl 1 rfl) ?_
  refine lv_aload_n hx hb d_B_tallyFrom_1 rfl (lv_at hl 0 rfl) ?_
  refine va_get (D := D) (ci := 0) (v := .int cc) (C := R_B) (T := F_B) (N := 11) hx hb ht iC_B hown hK hP 0 rfl rfl 2 (by decide) (ht _ ix_38) (fun _ h9 => h9) rfl d_B_tallyFrom_2 ?_
  refine lv_icmp_lt (tgt := 24) hx hb d_B_tallyFrom_5 (by decide) (fun c_1 => ?_) (fun c_1 => ?_)
  · have h := ite_T c_1 h
    refine lv_aload_n hx hb d_B_tallyFrom_24 rfl (lv_at hl 0 rfl) ?_
    refine va_get (D := D) (ci := 0) (v := .ref (a 3)) (C := R_B) (T := F_B) (N := 11) hx hb ht iC_B hown hK hP 0 rfl rfl 4 (by decide) (ht _ ix_40) (fun _ h9 => h9) rfl d_B_tallyFrom_25 ?_
    refine lv_iload_n hx hb d_B_tallyFrom_28 rfl (lv_at hl 1 rfl) ?_
    obtain ⟨g_2, h⟩ := gd_some h
    refine va_iald hx hb hK hP 3 2 rfl rfl (inb_in g_2) d_B_tallyFrom_29 ?_
    refine lv_istore (lv' := [(4, .int (od x1.toNatClampNeg)), (0, .ref (a 0)), (1, .int x1), (2, .int x2), (3, .int x3)]) hx hb d_B_tallyFrom_30 hl (by decide) rfl (fun ls hl => ?_)
    refine lv_aload_n hx hb d_B_tallyFrom_32 rfl (lv_at hl 1 rfl) ?_
    refine va_get (D := D) (ci := 0) (v := .ref (a 7)) (C := R_B) (T := F_B) (N := 11) hx hb ht iC_B hown hK hP 0 rfl rfl 8 (by decide) (ht _ ix_71) (fun _ h9 => h9) rfl d_B_tallyFrom_33 ?_
    refine lv_iload hx hb d_B_tallyFrom_36 (lv_at hl 0 rfl) ?_
    refine lv_iconst (v := 1) hx hb d_B_tallyFrom_38 (by decide) ?_
    obtain ⟨v_3, e_3, h⟩ := bd_some h
    refine go_Vi (r := v_3.1) (As := [.int (od x1.toNatClampNeg), .int (1 : Int32)]) (rest := []) (wc := (wW a k oe fp)) (wr := [((a 0), .inr (0, [.ref (a 1), .ref (a 2), .int cc, .int ci, .ref (a 3), .ref (a 4), .ref (a 5), .ref (a 6), .ref (a 7), .ref (a 10), .int we])), ((a 1), .inl (k 1, 40, .inl lab)), ((a 2), .inl (k 2, 10, .inl sg)), ((a 3), .inl (k 3, 10, .inl od)), ((a 4), .inl (k 4, 100, .inl sd)), ((a 5), .inl (k 5, 10, .inl go)), ((a 6), .inl (k 6, 330, .inl ta)), ((a 10), .inr (2, [.ref qr, .ref qs])), (qr, .inl (k 11, 133, .inr (.inl ro))), (qs, .inl (k 11, 133, .inr (.inl sp)))]) (w1 := (wW a k v_3.2 fp)) (w2 := (wB a k lab sg cc ci od sd go ta we v_3.2 fp ro sp qr qs)) (tc := [(k 8, .int), (k 9, .int)]) hx hb hml hown ht (c_W_smooth l D a k H.size (od x1.toNatClampNeg) (1 : Int32) oe fp v_3 e_3) g_B_113 ⟨rfl, rfl⟩ (n := 2) (by decide +kernel) ⟨(by simp only [rm_B_tallyFrom, rm_W_smooth]; omega), (by simp only [rm_B_tallyFrom, rm_W_smooth]; omega)⟩ hP hD hK hS hA ⟨Nat.zero_le _, Nat.zero_le _⟩ [7, 8, 9] [0, 1, 2, 3, 4, 5, 6, 10, 11, 12] [6, 7] [0, 1, 2, 3, 4, 5, 6, 10, 11, 12, 7, 8, 9] rfl rfl rfl rfl (by decide) (by decide) (by decide) rfl (by decide) 0 rfl rfl rfl rfl rfl hl.1 (Nat.le_of_ble_eq_true rfl) d_B_tallyFrom_39 (fun H locs hP hD hS => ?_)
    refine lv_istore (lv' := [(5, .int v_3.1), (4, .int (od x1.toNatClampNeg)), (0, .ref (a 0)), (1, .int x1), (2, .int x2), (3, .int x3)]) hx hb d_B_tallyFrom_42 hl (by decide) rfl (fun ls hl => ?_)
    refine lv_aload_n hx hb d_B_tallyFrom_44 rfl (lv_at hl 2 rfl) ?_
    refine lv_iload_n hx hb d_B_tallyFrom_45 rfl (lv_at hl 3 rfl) ?_
    refine lv_iconst (v := 1) hx hb d_B_tallyFrom_46 (by decide) ?_
    refine lv_iadd hx hb d_B_tallyFrom_47 ?_
    refine lv_iload_n hx hb d_B_tallyFrom_48 rfl (lv_at hl 4 rfl) ?_
    refine lv_iconst (v := 1) hx hb d_B_tallyFrom_49 (by decide) ?_
    refine lv_iadd hx hb d_B_tallyFrom_50 ?_
    refine lv_iload_n hx hb d_B_tallyFrom_51 rfl (lv_at hl 5 rfl) ?_
    refine lv_iload hx hb d_B_tallyFrom_52 (lv_at hl 0 rfl) ?_
    refine lv_iadd hx hb d_B_tallyFrom_54 ?_
    obtain ⟨v_4, e_4, h⟩ := bd_some h
    refine go_Sv (As := [.ref (a 0), .int (x1 + (1 : Int32)), .int (x2 + (1 : Int32)), .int (x3 + v_3.1)]) (rest := []) (wc := (wB a k lab sg cc ci od sd go ta we v_3.2 fp ro sp qr qs)) (wr := []) (w1 := (wB a k lab sg cc ci od sd go v_4.1 we v_4.2 fp ro sp qr qs)) (w2 := (wB a k lab sg cc ci od sd go v_4.1 we v_4.2 fp ro sp qr qs)) (tc := [(k 1, .int), (k 2, .int), (k 3, .int), (k 4, .int), (k 5, .boolean), (k 6, .int), (k 8, .int), (k 9, .int), (k 11, .long)]) hx hb hml hown ht (hrecF H.size (x1 + (1 : Int32)) (x2 + (1 : Int32)) (x3 + v_3.1) lab sg cc ci od sd go ta we v_3.2 fp ro sp qr qs v_4 e_4) g_B_158 ⟨rfl, rfl⟩ (n := 4) (by decide +kernel) ⟨(by simp only [rm_B_tallyFrom]; omega), (by simp only [rm_B_tallyFrom]; omega)⟩ hP hD hK hS hA ⟨Nat.zero_le _, Nat.zero_le _⟩ [0, 1, 2, 3, 4, 5, 6, 7, 8, 9, 10, 11, 12] [] [0, 1, 2, 3, 4, 5, 6, 7, 8] [0, 1, 2, 3, 4, 5, 6, 7, 8, 9, 10, 11, 12] rfl rfl rfl rfl (by decide) (by decide) (by decide) rfl (by decide) rfl rfl hl.1 (Nat.le_of_ble_eq_true rfl) d_B_tallyFrom_55 (fun H locs hP hD hS => ?_)
    refine lv_aload_n hx hb d_B_tallyFrom_58 rfl (lv_at hl 2 rfl) ?_
    refine va_get (D := D) (ci := 0) (v := .ref (a 7)) (C := R_B) (T := F_B) (N := 11) hx hb ht iC_B hown hK hP 0 rfl rfl 8 (by decide) (ht _ ix_71) (fun _ h9 => h9) rfl d_B_tallyFrom_59 ?_
    refine lv_iload hx hb d_B_tallyFrom_62 (lv_at hl 1 rfl) ?_
    refine lv_iconst (v := 1) hx hb d_B_tallyFrom_64 (by decide) ?_
    obtain ⟨v_5, e_5, h⟩ := bd_some h
    refine go_Vv (As := [.int (od x1.toNatClampNeg), .int (1 : Int32)]) (rest := []) (wc := (wW a k v_4.2 fp)) (wr := [((a 0), .inr (0, [.ref (a 1), .ref (a 2), .int cc, .int ci, .ref (a 3), .ref (a 4), .ref (a 5), .ref (a 6), .ref (a 7), .ref (a 10), .int we])), ((a 1), .inl (k 1, 40, .inl lab)), ((a 2), .inl (k 2, 10, .inl sg)), ((a 3), .inl (k 3, 10, .inl od)), ((a 4), .inl (k 4, 100, .inl sd)), ((a 5), .inl (k 5, 10, .inl go)), ((a 6), .inl (k 6, 330, .inl v_4.1)), ((a 10), .inr (2, [.ref qr, .ref qs])), (qr, .inl (k 11, 133, .inr (.inl ro))), (qs, .inl (k 11, 133, .inr (.inl sp)))]) (w1 := (wW a k v_5 fp)) (w2 := (wB a k lab sg cc ci od sd go v_4.1 we v_5 fp ro sp qr qs)) (tc := [(k 8, .int), (k 9, .int)]) hx hb hml hown ht (c_W_undo l D a k H.size (od x1.toNatClampNeg) (1 : Int32) v_4.2 fp v_5 e_5) g_B_162 ⟨rfl, rfl⟩ (n := 2) (by decide +kernel) ⟨(by simp only [rm_B_tallyFrom, rm_W_undo]; omega), (by simp only [rm_B_tallyFrom, rm_W_undo]; omega)⟩ hP hD hK hS hA ⟨Nat.zero_le _, Nat.zero_le _⟩ [7, 8, 9] [0, 1, 2, 3, 4, 5, 6, 10, 11, 12] [6, 7] [0, 1, 2, 3, 4, 5, 6, 10, 11, 12, 7, 8, 9] rfl rfl rfl rfl (by decide) (by decide) (by decide) rfl (by decide) 0 rfl rfl rfl rfl rfl hl.1 (Nat.le_of_ble_eq_true rfl) d_B_tallyFrom_65 (fun H locs hP hD hS => ?_)
    refine lv_aload_n hx hb d_B_tallyFrom_68 rfl (lv_at hl 2 rfl) ?_
    refine va_get (D := D) (ci := 0) (v := .ref (a 7)) (C := R_B) (T := F_B) (N := 11) hx hb ht iC_B hown hK hP 0 rfl rfl 8 (by decide) (ht _ ix_71) (fun _ h9 => h9) rfl d_B_tallyFrom_69 ?_
    refine lv_iload hx hb d_B_tallyFrom_72 (lv_at hl 1 rfl) ?_
    refine lv_iconst (v := 0) hx hb d_B_tallyFrom_74 (by decide) ?_
    obtain ⟨v_6, e_6, h⟩ := bd_some h
    refine go_Vi (r := v_6.1) (As := [.int (od x1.toNatClampNeg), .int (0 : Int32)]) (rest := []) (wc := (wW a k v_5 fp)) (wr := [((a 0), .inr (0, [.ref (a 1), .ref (a 2), .int cc, .int ci, .ref (a 3), .ref (a 4), .ref (a 5), .ref (a 6), .ref (a 7), .ref (a 10), .int we])), ((a 1), .inl (k 1, 40, .inl lab)), ((a 2), .inl (k 2, 10, .inl sg)), ((a 3), .inl (k 3, 10, .inl od)), ((a 4), .inl (k 4, 100, .inl sd)), ((a 5), .inl (k 5, 10, .inl go)), ((a 6), .inl (k 6, 330, .inl v_4.1)), ((a 10), .inr (2, [.ref qr, .ref qs])), (qr, .inl (k 11, 133, .inr (.inl ro))), (qs, .inl (k 11, 133, .inr (.inl sp)))]) (w1 := (wW a k v_6.2 fp)) (w2 := (wB a k lab sg cc ci od sd go v_4.1 we v_6.2 fp ro sp qr qs)) (tc := [(k 8, .int), (k 9, .int)]) hx hb hml hown ht (c_W_smooth l D a k H.size (od x1.toNatClampNeg) (0 : Int32) v_5 fp v_6 e_6) g_B_113 ⟨rfl, rfl⟩ (n := 2) (by decide +kernel) ⟨(by simp only [rm_B_tallyFrom, rm_W_smooth]; omega), (by simp only [rm_B_tallyFrom, rm_W_smooth]; omega)⟩ hP hD hK hS hA ⟨Nat.zero_le _, Nat.zero_le _⟩ [7, 8, 9] [0, 1, 2, 3, 4, 5, 6, 10, 11, 12] [6, 7] [0, 1, 2, 3, 4, 5, 6, 10, 11, 12, 7, 8, 9] rfl rfl rfl rfl (by decide) (by decide) (by decide) rfl (by decide) 0 rfl rfl rfl rfl rfl hl.1 (Nat.le_of_ble_eq_true rfl) d_B_tallyFrom_75 (fun H locs hP hD hS => ?_)
    refine lv_istore (lv' := [(6, .int v_6.1), (5, .int v_3.1), (4, .int (od x1.toNatClampNeg)), (0, .ref (a 0)), (1, .int x1), (2, .int x2), (3, .int x3)]) hx hb d_B_tallyFrom_78 hl (by decide) rfl (fun ls hl => ?_)
    refine lv_aload_n hx hb d_B_tallyFrom_80 rfl (lv_at hl 3 rfl) ?_
    refine lv_iload_n hx hb d_B_tallyFrom_81 rfl (lv_at hl 4 rfl) ?_
    refine lv_iconst (v := 1) hx hb d_B_tallyFrom_82 (by decide) ?_
    refine lv_iadd hx hb d_B_tallyFrom_83 ?_
    refine lv_iload_n hx hb d_B_tallyFrom_84 rfl (lv_at hl 5 rfl) ?_
    refine lv_iload_n hx hb d_B_tallyFrom_85 rfl (lv_at hl 6 rfl) ?_
    refine lv_iload hx hb d_B_tallyFrom_86 (lv_at hl 0 rfl) ?_
    refine lv_iadd hx hb d_B_tallyFrom_88 ?_
    obtain ⟨v_7, e_7, h⟩ := bd_some h
    refine go_Sv (As := [.ref (a 0), .int (x1 + (1 : Int32)), .int x2, .int (x3 + v_6.1)]) (rest := []) (wc := (wB a k lab sg cc ci od sd go v_4.1 we v_6.2 fp ro sp qr qs)) (wr := []) (w1 := (wB a k lab sg cc ci od sd go v_7.1 we v_7.2 fp ro sp qr qs)) (w2 := (wB a k lab sg cc ci od sd go v_7.1 we v_7.2 fp ro sp qr qs)) (tc := [(k 1, .int), (k 2, .int), (k 3, .int), (k 4, .int), (k 5, .boolean), (k 6, .int), (k 8, .int), (k 9, .int), (k 11, .long)]) hx hb hml hown ht (hrecF H.size (x1 + (1 : Int32)) x2 (x3 + v_6.1) lab sg cc ci od sd go v_4.1 we v_6.2 fp ro sp qr qs v_7 e_7) g_B_158 ⟨rfl, rfl⟩ (n := 4) (by decide +kernel) ⟨(by simp only [rm_B_tallyFrom]; omega), (by simp only [rm_B_tallyFrom]; omega)⟩ hP hD hK hS hA ⟨Nat.zero_le _, Nat.zero_le _⟩ [0, 1, 2, 3, 4, 5, 6, 7, 8, 9, 10, 11, 12] [] [0, 1, 2, 3, 4, 5, 6, 7, 8] [0, 1, 2, 3, 4, 5, 6, 7, 8, 9, 10, 11, 12] rfl rfl rfl rfl (by decide) (by decide) (by decide) rfl (by decide) rfl rfl hl.1 (Nat.le_of_ble_eq_true rfl) d_B_tallyFrom_89 (fun H locs hP hD hS => ?_)
    refine lv_aload_n hx hb d_B_tallyFrom_92 rfl (lv_at hl 3 rfl) ?_
    refine va_get (D := D) (ci := 0) (v := .ref (a 7)) (C := R_B) (T := F_B) (N := 11) hx hb ht iC_B hown hK hP 0 rfl rfl 8 (by decide) (ht _ ix_71) (fun _ h9 => h9) rfl d_B_tallyFrom_93 ?_
    refine lv_iload hx hb d_B_tallyFrom_96 (lv_at hl 2 rfl) ?_
    refine lv_iconst (v := 0) hx hb d_B_tallyFrom_98 (by decide) ?_
    obtain ⟨v_8, e_8, h⟩ := bd_some h
    refine go_Vv (As := [.int (od x1.toNatClampNeg), .int (0 : Int32)]) (rest := []) (wc := (wW a k v_7.2 fp)) (wr := [((a 0), .inr (0, [.ref (a 1), .ref (a 2), .int cc, .int ci, .ref (a 3), .ref (a 4), .ref (a 5), .ref (a 6), .ref (a 7), .ref (a 10), .int we])), ((a 1), .inl (k 1, 40, .inl lab)), ((a 2), .inl (k 2, 10, .inl sg)), ((a 3), .inl (k 3, 10, .inl od)), ((a 4), .inl (k 4, 100, .inl sd)), ((a 5), .inl (k 5, 10, .inl go)), ((a 6), .inl (k 6, 330, .inl v_7.1)), ((a 10), .inr (2, [.ref qr, .ref qs])), (qr, .inl (k 11, 133, .inr (.inl ro))), (qs, .inl (k 11, 133, .inr (.inl sp)))]) (w1 := (wW a k v_8 fp)) (w2 := (wB a k lab sg cc ci od sd go v_7.1 we v_8 fp ro sp qr qs)) (tc := [(k 8, .int), (k 9, .int)]) hx hb hml hown ht (c_W_undo l D a k H.size (od x1.toNatClampNeg) (0 : Int32) v_7.2 fp v_8 e_8) g_B_162 ⟨rfl, rfl⟩ (n := 2) (by decide +kernel) ⟨(by simp only [rm_B_tallyFrom, rm_W_undo]; omega), (by simp only [rm_B_tallyFrom, rm_W_undo]; omega)⟩ hP hD hK hS hA ⟨Nat.zero_le _, Nat.zero_le _⟩ [7, 8, 9] [0, 1, 2, 3, 4, 5, 6, 10, 11, 12] [6, 7] [0, 1, 2, 3, 4, 5, 6, 10, 11, 12, 7, 8, 9] rfl rfl rfl rfl (by decide) (by decide) (by decide) rfl (by decide) 0 rfl rfl rfl rfl rfl hl.1 (Nat.le_of_ble_eq_true rfl) d_B_tallyFrom_99 (fun H locs hP hD hS => ?_)
    cases h
    exact W.vret hx hb hr (fun t ht hW => ⟨⟨(), rfl, trivial, by rw [ht]; exact hP, va_K.moved hW.alike hK, hD⟩, hS.F ht⟩) hS.2.2 d_B_tallyFrom_102 hlk
  · have h := ite_F c_1 h
    refine lv_aload_n hx hb d_B_tallyFrom_8 rfl (lv_at hl 0 rfl) ?_
    refine va_get (D := D) (ci := 0) (v := .ref (a 6)) (C := R_B) (T := F_B) (N := 11) hx hb ht iC_B hown hK hP 0 rfl rfl 7 (by decide) (ht _ ix_83) (fun _ h9 => h9) rfl d_B_tallyFrom_9 ?_
    refine lv_iload_n hx hb d_B_tallyFrom_12 rfl (lv_at hl 2 rfl) ?_
    refine lv_bipush (v := 30) hx hb d_B_tallyFrom_13 (by decide) ?_
    refine lv_imul hx hb d_B_tallyFrom_15 ?_
    refine lv_iload_n hx hb d_B_tallyFrom_16 rfl (lv_at hl 3 rfl) ?_
    refine lv_iadd hx hb d_B_tallyFrom_17 ?_
    refine lv_dup2_11 hx hb d_B_tallyFrom_18 rfl rfl ?_
    obtain ⟨g_9, h⟩ := gd_some h
    refine va_iald hx hb hK hP 6 5 rfl rfl (inb_in g_9) d_B_tallyFrom_19 ?_
    refine lv_iconst (v := 1) hx hb d_B_tallyFrom_20 (by decide) ?_
    refine lv_iadd hx hb d_B_tallyFrom_21 ?_
    obtain ⟨g_10, h⟩ := gd_some h
    refine va_iast hx hb hK hP hD hS 6 5 rfl rfl (inb_in g_10) d_B_tallyFrom_22 (fun H locs hP hD hS => ?_)
    have hP : va_P D classes (wB a k lab sg cc ci od sd go (upd ta ((x2 * (30 : Int32)) + x3).toNatClampNeg ((ta ((x2 * (30 : Int32)) + x3).toNatClampNeg) + (1 : Int32))) we oe fp ro sp qr qs) H := hP
    have hD : va_D A (wB a k lab sg cc ci od sd go (upd ta ((x2 * (30 : Int32)) + x3).toNatClampNeg ((ta ((x2 * (30 : Int32)) + x3).toNatClampNeg) + (1 : Int32))) we oe fp ro sp qr qs) := hD
    cases h
    exact W.vret hx hb hr (fun t ht hW => ⟨⟨(), rfl, trivial, by rw [ht]; exact hP, va_K.moved hW.alike hK, hD⟩, hS.F ht⟩) hS.2.2 d_B_tallyFrom_23 hlk
set_option maxRecDepth 20000 in
theorem c1_B_tallyFrom (l : Launch) (D : va_G) (a : Nat → Nat) (k : Nat → ClassId) (dp : Nat) (recF : Int32 → Int32 → Int32 → Int32 → (Nat → Int32) → (Nat → Int32) → (Nat → Int32) → Option ((Nat → Int32) × (Nat → Int32))) (hrecF : CT_B_tallyFrom l D a k dp recF) : CT_B_tallyFrom l D a k (dp + 1) (J_B_tallyFrom_0 recF) := by
  intro sz x1 x2 x3 lab sg cc ci od sd go ta we oe fp ro sp qr qs r h
  refine Met.ofW (cc := b_B_tallyFrom) (maxL := 7) (ret := none) (by decide) rfl ?_
  intro p e s m args below meth c s₁ B hml hv
  obtain ⟨rfl, hsz, hP, hK, hD0⟩ := hv
  have hts := atoms_spec (ws := Cond.code y_B_tallyFrom b_B_tallyFrom 7 none :: lw_g) B.pre
  subst hsz
  have hD := hD0.self (sz := s.heap.size)
  have hl := lv_entry ([.ref (a 0), .int x1, .int x2, .int x3]) (n := 7) (Nat.le_of_ble_eq_true rfl)
  rw [lg_entry_eq]
  generalize (lg_sl ([.ref (a 0), .int x1, .int x2, .int x3]) ++ List.replicate (7 - (lg_sl ([.ref (a 0), .int x1, .int x2, .int x3])).length) Slot.unset).toArray = ls at hl ⊢
  exact k_B_tallyFrom_0 ⟨B.exec, B.bytes, B.returns, hml, findClass_of_methodNamed B.named, fun w hw => hts w (List.mem_cons_of_mem _ hw), B.notSynchronized, fun q h => Or.inr h, hK⟩ hrecF _ _ _ _ _ _ _ _ h _ _ _ hP hD va_S.rf hl
theorem c_B_tallyFrom (l : Launch) (D : va_G) (a : Nat → Nat) (k : Nat → ClassId) : ∀ dp : Nat, CT_B_tallyFrom l D a k dp (F_B_tallyFrom dp)
  | 0 => fun _ _ _ _ _ _ _ _ _ _ _ _ _ _ _ _ _ _ _ _ h => nomatch h
  | n + 1 => c1_B_tallyFrom l D a k n _ (c_B_tallyFrom l D a k n)

def rm_B_tallyStates : Room := { frames := 15, cells := 0, slots := 0, locals := 385 }
def qc_B_tallyStates (D : va_G) (A : Nat → Prop) (a : Nat → Nat) (k : Nat → ClassId) (lab : Nat → Int32) (sg : Nat → Int32) (cc : Int32) (ci : Int32) (od : Nat → Int32) (sd : Nat → Int32) (go : Nat → Int32) (we : Int32) (ro : Nat → Int64) (sp : Nat → Int64) (qr : Nat) (qs : Nat) (r : (Nat → Int32) × (Nat → Int32) × (Nat → Int32)) : Array Value → State → Outcome → State → Prop := va_Qv (fun (_ : Unit) => True) (poW D [(k 1, .int), (k 2, .int), (k 3, .int), (k 4, .int), (k 5, .boolean), (k 6, .int), (k 8, .int), (k 9, .int), (k 11, .long)] (wB a k lab sg cc ci od sd go r.1 we r.2.1 r.2.2 ro sp qr qs) A) A
def J_B_tallyStates_60 (y0 : Int32) (y1 : Int32) (y2 : Int32) (lab : Nat → Int32) (cc : Int32) (ci : Int32) (od : Nat → Int32) (ta : Nat → Int32) (oe : Nat → Int32) (fp : Nat → Int32) : Option ((Nat → Int32) × (Nat → Int32) × (Nat → Int32)) :=
  (Option.bind (F_B_tallyFrom 12 y2 y1 y0 cc od ta oe) (fun v_1 => some (v_1.1, v_1.2, fp)))
def J_B_tallyStates_44 (y0 : Int32) (lab : Nat → Int32) (cc : Int32) (ci : Int32) (od : Nat → Int32) (ta : Nat → Int32) (oe : Nat → Int32) (fp : Nat → Int32) : Option ((Nat → Int32) × (Nat → Int32) × (Nat → Int32)) :=
  (if y0 = 0 then J_B_tallyStates_60 ci (0 : Int32) (0 : Int32) lab cc ci od ta oe fp else J_B_tallyStates_60 (1 : Int32) (0 : Int32) (0 : Int32) lab cc ci od ta oe fp)
def J_B_tallyStates_43 (lab : Nat → Int32) (cc : Int32) (ci : Int32) (od : Nat → Int32) (ta : Nat → Int32) (oe : Nat → Int32) (fp : Nat → Int32) : Option ((Nat → Int32) × (Nat → Int32) × (Nat → Int32)) :=
  J_B_tallyStates_44 (0 : Int32) lab cc ci od ta oe fp
def J_B_tallyStates_0 (lab : Nat → Int32) (cc : Int32) (ci : Int32) (od : Nat → Int32) (ta : Nat → Int32) (oe : Nat → Int32) (fp : Nat → Int32) : Option ((Nat → Int32) × (Nat → Int32) × (Nat → Int32)) :=
  (Option.bind (F_W_followLabels ((4 : Int32) * cc) oe fp lab) (fun v_1 => (if cc = 0 then (if ci = 0 then J_B_tallyStates_44 (1 : Int32) lab cc ci od (fun _ => (0 : Int32)) v_1.1 v_1.2 else J_B_tallyStates_43 lab cc ci od (fun _ => (0 : Int32)) v_1.1 v_1.2) else J_B_tallyStates_43 lab cc ci od (fun _ => (0 : Int32)) v_1.1 v_1.2)))
def F_B_tallyStates (lab : Nat → Int32) (cc : Int32) (ci : Int32) (od : Nat → Int32) (ta : Nat → Int32) (oe : Nat → Int32) (fp : Nat → Int32) : Option ((Nat → Int32) × (Nat → Int32) × (Nat → Int32)) := J_B_tallyStates_0 lab cc ci od ta oe fp
def H_B_tallyStates_60 (p : Program) (l : Launch) (e : Env) (s : State) (m : MethodId) (args : Array Value) (below : List Frame) (meth : Method) (c : Code) (D : va_G) (A : Nat → Prop) (a : Nat → Nat) (k : Nat → ClassId) (sg : Nat → Int32) (sd : Nat → Int32) (go : Nat → Int32) (we : Int32) (ro : Nat → Int64) (sp : Nat → Int64) (qr : Nat) (qs : Nat) (f : Int32 → Int32 → Int32 → (Nat → Int32) → Int32 → Int32 → (Nat → Int32) → (Nat → Int32) → (Nat → Int32) → (Nat → Int32) → Option ((Nat → Int32) × (Nat → Int32) × (Nat → Int32))) : Prop := ∀ (y0 : Int32) (y1 : Int32) (y2 : Int32) (lab : Nat → Int32) (cc : Int32) (ci : Int32) (od : Nat → Int32) (ta : Nat → Int32) (oe : Nat → Int32) (fp : Nat → Int32) (r : (Nat → Int32) × (Nat → Int32) × (Nat → Int32)), f y0 y1 y2 lab cc ci od ta oe fp = some r → ∀ (H : Heap) (locs : List Loc) (ls : Array Slot), va_P D classes (wB a k lab sg cc ci od sd go ta we oe fp ro sp qr qs) H → va_D A (wB a k lab sg cc ci od sd go ta we oe fp ro sp qr qs) → va_S A s.heap H locs → lv_has ls 2 [] → W p l e (rm_B_tallyStates) s m args below meth c H locs 0 0 (MQ below (qc_B_tallyStates D A a k lab sg cc ci od sd go we ro sp qr qs r) args s 0 0 A) (F0 m 60 ls [.int y0, .int y1, .int y2, .ref (a 0)])
def H_B_tallyStates_44 (p : Program) (l : Launch) (e : Env) (s : State) (m : MethodId) (args : Array Value) (below : List Frame) (meth : Method) (c : Code) (D : va_G) (A : Nat → Prop) (a : Nat → Nat) (k : Nat → ClassId) (sg : Nat → Int32) (sd : Nat → Int32) (go : Nat → Int32) (we : Int32) (ro : Nat → Int64) (sp : Nat → Int64) (qr : Nat) (qs : Nat) (f : Int32 → (Nat → Int32) → Int32 → Int32 → (Nat → Int32) → (Nat → Int32) → (Nat → Int32) → (Nat → Int32) → Option ((Nat → Int32) × (Nat → Int32) × (Nat → Int32))) : Prop := ∀ (y0 : Int32) (lab : Nat → Int32) (cc : Int32) (ci : Int32) (od : Nat → Int32) (ta : Nat → Int32) (oe : Nat → Int32) (fp : Nat → Int32) (r : (Nat → Int32) × (Nat → Int32) × (Nat → Int32)), f y0 lab cc ci od ta oe fp = some r → ∀ (H : Heap) (locs : List Loc) (ls : Array Slot), va_P D classes (wB a k lab sg cc ci od sd go ta we oe fp ro sp qr qs) H → va_D A (wB a k lab sg cc ci od sd go ta we oe fp ro sp qr qs) → va_S A s.heap H locs → lv_has ls 2 [(0, .ref (a 0))] → W p l e (rm_B_tallyStates) s m args below meth c H locs 0 0 (MQ below (qc_B_tallyStates D A a k lab sg cc ci od sd go we ro sp qr qs r) args s 0 0 A) (F0 m 44 ls [.int y0])
def H_B_tallyStates_43 (p : Program) (l : Launch) (e : Env) (s : State) (m : MethodId) (args : Array Value) (below : List Frame) (meth : Method) (c : Code) (D : va_G) (A : Nat → Prop) (a : Nat → Nat) (k : Nat → ClassId) (sg : Nat → Int32) (sd : Nat → Int32) (go : Nat → Int32) (we : Int32) (ro : Nat → Int64) (sp : Nat → Int64) (qr : Nat) (qs : Nat) (f : (Nat → Int32) → Int32 → Int32 → (Nat → Int32) → (Nat → Int32) → (Nat → Int32) → (Nat → Int32) → Option ((Nat → Int32) × (Nat → Int32) × (Nat → Int32))) : Prop := ∀ (lab : Nat → Int32) (cc : Int32) (ci : Int32) (od : Nat → Int32) (ta : Nat → Int32) (oe : Nat → Int32) (fp : Nat → Int32) (r : (Nat → Int32) × (Nat → Int32) × (Nat → Int32)), f lab cc ci od ta oe fp = some r → ∀ (H : Heap) (locs : List Loc) (ls : Array Slot), va_P D classes (wB a k lab sg cc ci od sd go ta we oe fp ro sp qr qs) H → va_D A (wB a k lab sg cc ci od sd go ta we oe fp ro sp qr qs) → va_S A s.heap H locs → lv_has ls 2 [(0, .ref (a 0))] → W p l e (rm_B_tallyStates) s m args below meth c H locs 0 0 (MQ below (qc_B_tallyStates D A a k lab sg cc ci od sd go we ro sp qr qs r) args s 0 0 A) (F0 m 43 ls [])
def H_B_tallyStates_0 (p : Program) (l : Launch) (e : Env) (s : State) (m : MethodId) (args : Array Value) (below : List Frame) (meth : Method) (c : Code) (D : va_G) (A : Nat → Prop) (a : Nat → Nat) (k : Nat → ClassId) (sg : Nat → Int32) (sd : Nat → Int32) (go : Nat → Int32) (we : Int32) (ro : Nat → Int64) (sp : Nat → Int64) (qr : Nat) (qs : Nat) (f : (Nat → Int32) → Int32 → Int32 → (Nat → Int32) → (Nat → Int32) → (Nat → Int32) → (Nat → Int32) → Option ((Nat → Int32) × (Nat → Int32) × (Nat → Int32))) : Prop := ∀ (lab : Nat → Int32) (cc : Int32) (ci : Int32) (od : Nat → Int32) (ta : Nat → Int32) (oe : Nat → Int32) (fp : Nat → Int32) (r : (Nat → Int32) × (Nat → Int32) × (Nat → Int32)), f lab cc ci od ta oe fp = some r → ∀ (H : Heap) (locs : List Loc) (ls : Array Slot), va_P D classes (wB a k lab sg cc ci od sd go ta we oe fp ro sp qr qs) H → va_D A (wB a k lab sg cc ci od sd go ta we oe fp ro sp qr qs) → va_S A s.heap H locs → lv_has ls 2 [(0, .ref (a 0))] → W p l e (rm_B_tallyStates) s m args below meth c H locs 0 0 (MQ below (qc_B_tallyStates D A a k lab sg cc ci od sd go we ro sp qr qs r) args s 0 0 A) (F0 m 0 ls [])
set_option maxHeartbeats 4000000 in
set_option maxRecDepth 100000 in
theorem k_B_tallyStates_60 {p : Program} {l : Launch} {e : Env} {s : State} {m : MethodId} {args : Array Value} {below : List Frame} {meth : Method} {c : Code} {D : va_G} {A : Nat → Prop} {a : Nat → Nat} {k : Nat → ClassId} {sg : Nat → Int32} {sd : Nat → Int32} {go : Nat → Int32} {we : Int32} {ro : Nat → Int64} {sp : Nat → Int64} {qr : Nat} {qs : Nat} (C : cx D [(k 1, .int), (k 2, .int), (k 3, .int), (k 4, .int), (k 5, .boolean), (k 6, .int), (k 8, .int), (k 9, .int), (k 11, .long)] R_B b_B_tallyStates 2 none A p s m args meth c) : H_B_tallyStates_60 p l e s m args below meth c D A a k sg sd go we ro sp qr qs (J_B_tallyStates_60) := by
  obtain ⟨hx, hb, hr, hml, hown, ht, hlk, hA, hK⟩ := id C
  intro y0 y1 y2 lab cc ci od ta oe fp r h H locs ls hP hD hS hl
  unfold J_B_tallyStates_60 at h
  obtain ⟨v_1, e_1, h⟩ := bd_some h
  refine go_Sv (As := [.ref (a 0), .int y2, .int y1, .int y0]) (rest := []) (wc := (wB a k lab sg cc ci od sd go ta we oe fp ro sp qr qs)) (wr := []) (w1 := (wB a k lab sg cc ci od sd go v_1.1 we v_1.2 fp ro sp qr qs)) (w2 := (wB a k lab sg cc ci od sd go v_1.1 we v_1.2 fp ro sp qr qs)) (tc := [(k 1, .int), (k 2, .int), (k 3, .int), (k 4, .int), (k 5, .boolean), (k 6, .int), (k 8, .int), (k 9, .int), (k 11, .long)]) hx hb hml hown ht (c_B_tallyFrom l D a k 12 H.size y2 y1 y0 lab sg cc ci od sd go ta we oe fp ro sp qr qs v_1 e_1) g_B_158 ⟨rfl, rfl⟩ (n := 4) (by decide +kernel) ⟨(Nat.le_of_ble_eq_true rfl), (Nat.le_of_ble_eq_true rfl)⟩ hP hD hK hS hA ⟨Nat.zero_le _, Nat.zero_le _⟩ [0, 1, 2, 3, 4, 5, 6, 7, 8, 9, 10, 11, 12] [] [0, 1, 2, 3, 4, 5, 6, 7, 8] [0, 1, 2, 3, 4, 5, 6, 7, 8, 9, 10, 11, 12] rfl rfl rfl rfl (by decide) (by decide) (by decide) rfl (by decide) rfl rfl hl.1 (Nat.le_of_ble_eq_true rfl) d_B_tallyStates_60 (fun H locs hP hD hS => ?_)
  cases h
  exact W.vret hx hb hr (fun t ht hW => ⟨⟨(), rfl, trivial, by rw [ht]; exact hP, va_K.moved hW.alike hK, hD⟩, hS.F ht⟩) hS.2.2 d_B_tallyStates_63 hlk
set_option maxHeartbeats 4000000 in
set_option maxRecDepth 100000 in
theorem k_B_tallyStates_44 {p : Program} {l : Launch} {e : Env} {s : State} {m : MethodId} {args : Array Value} {below : List Frame} {meth : Method} {c : Code} {D : va_G} {A : Nat → Prop} {a : Nat → Nat} {k : Nat → ClassId} {sg : Nat → Int32} {sd : Nat → Int32} {go : Nat → Int32} {we : Int32} {ro : Nat → Int64} {sp : Nat → Int64} {qr : Nat} {qs : Nat} (C : cx D [(k 1, .int), (k 2, .int), (k 3, .int), (k 4, .int), (k 5, .boolean), (k 6, .int), (k 8, .int), (k 9, .int), (k 11, .long)] R_B b_B_tallyStates 2 none A p s m args meth c) : H_B_tallyStates_44 p l e s m args below meth c D A a k sg sd go we ro sp qr qs (J_B_tallyStates_44) := by
  obtain ⟨hx, hb, hr, hml, hown, ht, hlk, hA, hK⟩ := id C
  intro y0 lab cc ci od ta oe fp r h H locs ls hP hD hS hl
  unfold J_B_tallyStates_44 at h
  refine lv_istore_n (lv' := [(1, .int y0), (0, .ref (a 0))]) hx hb d_B_tallyStates_44 rfl hl (by decide) rfl (fun ls hl => ?_)
  refine lv_aload_n hx hb d_B_tallyStates_45 rfl (lv_at hl 1 rfl) ?_
  refine lv_iconst (v := 0) hx hb d_B_tallyStates_46 (by decide) ?_
  refine lv_iconst (v := 0) hx hb d_B_tallyStates_47 (by decide) ?_
  refine lv_iload_n hx hb d_B_tallyStates_48 rfl (lv_at hl 0 rfl) ?_
  refine lv_if_eq (tgt := 56) hx hb d_B_tallyStates_49 (by decide) (fun c_1 => ?_) (fun c_1 => ?_)
  · have h := ite_T c_1 h
    refine lv_aload_n hx hb d_B_tallyStates_56 rfl (lv_at hl 1 rfl) ?_
    refine va_get (D := D) (ci := 0) (v := .int ci) (C := R_B) (T := F_B) (N := 11) hx hb ht iC_B hown hK hP 0 rfl rfl 3 (by decide) (ht _ ix_54) (fun _ h9 => h9) rfl d_B_tallyStates_57 ?_
    exact (k_B_tallyStates_60 C) _ _ _ _ _ _ _ _ _ _ _ h _ _ _ hP hD hS (lv_sub hl [] rfl)
  · have h := ite_F c_1 h
    refine lv_iconst (v := 1) hx hb d_B_tallyStates_52 (by decide) ?_
    refine lv_goto (tgt := 60) hx hb d_B_tallyStates_53 (by decide) ?_
    exact (k_B_tallyStates_60 C) _ _ _ _ _ _ _ _ _ _ _ h _ _ _ hP hD hS (lv_sub hl [] rfl)
set_option maxHeartbeats 4000000 in
set_option maxRecDepth 100000 in
theorem k_B_tallyStates_43 {p : Program} {l : Launch} {e : Env} {s : State} {m : MethodId} {args : Array Value} {below : List Frame} {meth : Method} {c : Code} {D : va_G} {A : Nat → Prop} {a : Nat → Nat} {k : Nat → ClassId} {sg : Nat → Int32} {sd : Nat → Int32} {go : Nat → Int32} {we : Int32} {ro : Nat → Int64} {sp : Nat → Int64} {qr : Nat} {qs : Nat} (C : cx D [(k 1, .int), (k 2, .int), (k 3, .int), (k 4, .int), (k 5, .boolean), (k 6, .int), (k 8, .int), (k 9, .int), (k 11, .long)] R_B b_B_tallyStates 2 none A p s m args meth c) : H_B_tallyStates_43 p l e s m args below meth c D A a k sg sd go we ro sp qr qs (J_B_tallyStates_43) := by
  obtain ⟨hx, hb, hr, hml, hown, ht, hlk, hA, hK⟩ := id C
  intro lab cc ci od ta oe fp r h H locs ls hP hD hS hl
  unfold J_B_tallyStates_43 at h
  refine lv_iconst (v := 0) hx hb d_B_tallyStates_43 (by decide) ?_
  exact (k_B_tallyStates_44 C) _ _ _ _ _ _ _ _ _ h _ _ _ hP hD hS (lv_sub hl [0] rfl)
set_option maxHeartbeats 4000000 in
set_option maxRecDepth 100000 in
theorem k_B_tallyStates_0 {p : Program} {l : Launch} {e : Env} {s : State} {m : MethodId} {args : Array Value} {below : List Frame} {meth : Method} {c : Code} {D : va_G} {A : Nat → Prop} {a : Nat → Nat} {k : Nat → ClassId} {sg : Nat → Int32} {sd : Nat → Int32} {go : Nat → Int32} {we : Int32} {ro : Nat → Int64} {sp : Nat → Int64} {qr : Nat} {qs : Nat} (C : cx D [(k 1, .int), (k 2, .int), (k 3, .int), (k 4, .int), (k 5, .boolean), (k 6, .int), (k 8, .int), (k 9, .int), (k 11, .long)] R_B b_B_tallyStates 2 none A p s m args meth c) : H_B_tallyStates_0 p l e s m args below meth c D A a k sg sd go we ro sp qr qs (J_B_tallyStates_0) := by
  obtain ⟨hx, hb, hr, hml, hown, ht, hlk, hA, hK⟩ := id C
  intro lab cc ci od ta oe fp r h H locs ls hP hD hS hl
  unfold J_B_tallyStates_0 at h
  refine lv_aload_n hx hb d_B_tallyStates_0 rfl (lv_at hl 0 rfl) ?_
  refine va_get (D := D) (ci := 0) (v := .ref (a 6)) (C := R_B) (T := F_B) (N := 11) hx hb ht iC_B hown hK hP 0 rfl rfl 7 (by decide) (ht _ ix_83) (fun _ h9 => h9) rfl d_B_tallyStates_1 ?_
  refine lv_iconst (v := 0) hx hb d_B_tallyStates_4 (by decide) ?_
  refine go_Sv (As := [.ref (a 6), .int (0 : Int32)]) (rest := []) (wc := [((a 6), .inl (k 6, 330, .inl ta))]) (wr := [((a 0), .inr (0, [.ref (a 1), .ref (a 2), .int cc, .int ci, .ref (a 3), .ref (a 4), .ref (a 5), .ref (a 6), .ref (a 7), .ref (a 10), .int we])), ((a 1), .inl (k 1, 40, .inl lab)), ((a 2), .inl (k 2, 10, .inl sg)), ((a 3), .inl (k 3, 10, .inl od)), ((a 4), .inl (k 4, 100, .inl sd)), ((a 5), .inl (k 5, 10, .inl go)), ((a 7), .inr (1, [.ref (a 8), .ref (a 9)])), ((a 8), .inl (k 8, 40, .inl oe)), ((a 9), .inl (k 9, 100, .inl fp)), ((a 10), .inr (2, [.ref qr, .ref qs])), (qr, .inl (k 11, 133, .inr (.inl ro))), (qs, .inl (k 11, 133, .inr (.inl sp)))]) (w1 := [((a 6), .inl (k 6, 330, .inl (fun _ => (0 : Int32))))]) (w2 := (wB a k lab sg cc ci od sd go (fun _ => (0 : Int32)) we oe fp ro sp qr qs)) (tc := [(k 6, .int)]) hx hb hml hown ht (c_fillI l D (a 6) (k 6) 330 H.size ta (0 : Int32) (by decide)) g_B_134 ⟨rfl, rfl⟩ (n := 2) (by decide +kernel) ⟨(Nat.le_of_ble_eq_true rfl), (Nat.le_of_ble_eq_true rfl)⟩ hP hD hK hS hA ⟨Nat.zero_le _, Nat.zero_le _⟩ [6] [0, 1, 2, 3, 4, 5, 7, 8, 9, 10, 11, 12] [5] [0, 1, 2, 3, 4, 5, 12, 6, 7, 8, 9, 10, 11] rfl rfl rfl rfl (by decide) (by decide) (by decide) rfl (by decide) rfl rfl hl.1 (Nat.le_of_ble_eq_true rfl) d_B_tallyStates_5 (fun H locs hP hD hS => ?_)
  refine lv_aload_n hx hb d_B_tallyStates_8 rfl (lv_at hl 0 rfl) ?_
  refine va_get (D := D) (ci := 0) (v := .ref (a 7)) (C := R_B) (T := F_B) (N := 11) hx hb ht iC_B hown hK hP 0 rfl rfl 8 (by decide) (ht _ ix_71) (fun _ h9 => h9) rfl d_B_tallyStates_9 ?_
  refine lv_aload_n hx hb d_B_tallyStates_12 rfl (lv_at hl 0 rfl) ?_
  refine va_get (D := D) (ci := 0) (v := .ref (a 1)) (C := R_B) (T := F_B) (N := 11) hx hb ht iC_B hown hK hP 0 rfl rfl 0 (by decide) (ht _ ix_43) (fun _ h9 => h9) rfl d_B_tallyStates_13 ?_
  refine lv_iconst (v := 4) hx hb d_B_tallyStates_16 (by decide) ?_
  refine lv_aload_n hx hb d_B_tallyStates_17 rfl (lv_at hl 0 rfl) ?_
  refine va_get (D := D) (ci := 0) (v := .int cc) (C := R_B) (T := F_B) (N := 11) hx hb ht iC_B hown hK hP 0 rfl rfl 2 (by decide) (ht _ ix_38) (fun _ h9 => h9) rfl d_B_tallyStates_18 ?_
  refine lv_imul hx hb d_B_tallyStates_21 ?_
  obtain ⟨v_1, e_1, h⟩ := bd_some h
  refine go_Vv (As := [.ref (a 1), .int ((4 : Int32) * cc)]) (rest := []) (wc := (wL a k oe fp lab)) (wr := [((a 0), .inr (0, [.ref (a 1), .ref (a 2), .int cc, .int ci, .ref (a 3), .ref (a 4), .ref (a 5), .ref (a 6), .ref (a 7), .ref (a 10), .int we])), ((a 2), .inl (k 2, 10, .inl sg)), ((a 3), .inl (k 3, 10, .inl od)), ((a 4), .inl (k 4, 100, .inl sd)), ((a 5), .inl (k 5, 10, .inl go)), ((a 6), .inl (k 6, 330, .inl (fun _ => (0 : Int32)))), ((a 10), .inr (2, [.ref qr, .ref qs])), (qr, .inl (k 11, 133, .inr (.inl ro))), (qs, .inl (k 11, 133, .inr (.inl sp)))]) (w1 := (wL a k v_1.1 v_1.2 lab)) (w2 := (wB a k lab sg cc ci od sd go (fun _ => (0 : Int32)) we v_1.1 v_1.2 ro sp qr qs)) (tc := [(k 8, .int), (k 9, .int), (k 1, .int)]) hx hb hml hown ht (c_W_followLabels l D a k H.size ((4 : Int32) * cc) oe fp lab v_1 e_1) g_B_109 ⟨rfl, rfl⟩ (n := 2) (by decide +kernel) ⟨(Nat.le_of_ble_eq_true rfl), (Nat.le_of_ble_eq_true rfl)⟩ hP hD hK hS hA ⟨Nat.zero_le _, Nat.zero_le _⟩ [7, 8, 9, 1] [0, 2, 3, 4, 5, 6, 10, 11, 12] [6, 7, 0] [0, 12, 1, 2, 3, 4, 5, 9, 10, 11, 6, 7, 8] rfl rfl rfl rfl (by decide) (by decide) (by decide) rfl (by decide) 0 rfl rfl rfl rfl rfl hl.1 (Nat.le_of_ble_eq_true rfl) d_B_tallyStates_22 (fun H locs hP hD hS => ?_)
  refine lv_aload_n hx hb d_B_tallyStates_25 rfl (lv_at hl 0 rfl) ?_
  refine va_get (D := D) (ci := 0) (v := .int cc) (C := R_B) (T := F_B) (N := 11) hx hb ht iC_B hown hK hP 0 rfl rfl 2 (by decide) (ht _ ix_38) (fun _ h9 => h9) rfl d_B_tallyStates_26 ?_
  refine lv_if_ne (tgt := 43) hx hb d_B_tallyStates_29 (by decide) (fun c_2 => ?_) (fun c_2 => ?_)
  · have h := ite_F c_2 h
    exact (k_B_tallyStates_43 C) _ _ _ _ _ _ _ _ h _ _ _ hP hD hS (lv_sub hl [0] rfl)
  · have h := ite_T c_2 h
    refine lv_aload_n hx hb d_B_tallyStates_32 rfl (lv_at hl 0 rfl) ?_
    refine va_get (D := D) (ci := 0) (v := .int ci) (C := R_B) (T := F_B) (N := 11) hx hb ht iC_B hown hK hP 0 rfl rfl 3 (by decide) (ht _ ix_54) (fun _ h9 => h9) rfl d_B_tallyStates_33 ?_
    refine lv_if_ne (tgt := 43) hx hb d_B_tallyStates_36 (by decide) (fun c_3 => ?_) (fun c_3 => ?_)
    · have h := ite_F c_3 h
      exact (k_B_tallyStates_43 C) _ _ _ _ _ _ _ _ h _ _ _ hP hD hS (lv_sub hl [0] rfl)
    · have h := ite_T c_3 h
      refine lv_iconst (v := 1) hx hb d_B_tallyStates_39 (by decide) ?_
      refine lv_goto (tgt := 44) hx hb d_B_tallyStates_40 (by decide) ?_
      exact (k_B_tallyStates_44 C) _ _ _ _ _ _ _ _ _ h _ _ _ hP hD hS (lv_sub hl [0] rfl)
set_option maxRecDepth 20000 in
theorem c_B_tallyStates (l : Launch) (D : va_G) (a : Nat → Nat) (k : Nat → ClassId) (sz : Nat) (lab : Nat → Int32) (sg : Nat → Int32) (cc : Int32) (ci : Int32) (od : Nat → Int32) (sd : Nat → Int32) (go : Nat → Int32) (ta : Nat → Int32) (we : Int32) (oe : Nat → Int32) (fp : Nat → Int32) (ro : Nat → Int64) (sp : Nat → Int64) (qr : Nat) (qs : Nat) (r : (Nat → Int32) × (Nat → Int32) × (Nat → Int32)) (h : F_B_tallyStates lab cc ci od ta oe fp = some r) : Met l y_B_tallyStates (Cond.code y_B_tallyStates b_B_tallyStates 2 none :: lw_g) (rm_B_tallyStates) (va_Pc [.ref (a 0)] (pcW D [(k 1, .int), (k 2, .int), (k 3, .int), (k 4, .int), (k 5, .boolean), (k 6, .int), (k 8, .int), (k 9, .int), (k 11, .long)] (wB a k lab sg cc ci od sd go ta we oe fp ro sp qr qs) sz)) (qc_B_tallyStates D (va_A (wB a k lab sg cc ci od sd go ta we oe fp ro sp qr qs) sz) a k lab sg cc ci od sd go we ro sp qr qs r) 0 0 (va_A (wB a k lab sg cc ci od sd go ta we oe fp ro sp qr qs) sz) := by
  refine Met.ofW (cc := b_B_tallyStates) (maxL := 2) (ret := none) (by decide) rfl ?_
  intro p e s m args below meth c s₁ B hml hv
  obtain ⟨rfl, hsz, hP, hK, hD0⟩ := hv
  have hts := atoms_spec (ws := Cond.code y_B_tallyStates b_B_tallyStates 2 none :: lw_g) B.pre
  subst hsz
  have hD := hD0.self (sz := s.heap.size)
  have hl := lv_entry ([.ref (a 0)]) (n := 2) (Nat.le_of_ble_eq_true rfl)
  rw [lg_entry_eq]
  generalize (lg_sl ([.ref (a 0)]) ++ List.replicate (2 - (lg_sl ([.ref (a 0)])).length) Slot.unset).toArray = ls at hl ⊢
  exact k_B_tallyStates_0 ⟨B.exec, B.bytes, B.returns, hml, findClass_of_methodNamed B.named, fun w hw => hts w (List.mem_cons_of_mem _ hw), B.notSynchronized, fun q h => Or.inr h, hK⟩ _ _ _ _ _ _ _ _ h _ _ _ hP hD va_S.rf hl

def rm_B_sumTally : Room := { frames := 2, cells := 0, slots := 0, locals := 43 }
def qc_B_sumTally (D : va_G) (A : Nat → Prop) (a : Nat → Nat) (k : Nat → ClassId) (lab : Nat → Int32) (sg : Nat → Int32) (cc : Int32) (ci : Int32) (od : Nat → Int32) (sd : Nat → Int32) (go : Nat → Int32) (ta : Nat → Int32) (we : Int32) (oe : Nat → Int32) (fp : Nat → Int32) (r : (Nat → Int64) × (Nat → Int64) × Nat × Nat) : Array Value → State → Outcome → State → Prop := va_Qv (fun (_ : Unit) => True) (poW D [(k 1, .int), (k 2, .int), (k 3, .int), (k 4, .int), (k 5, .boolean), (k 6, .int), (k 8, .int), (k 9, .int), (k 11, .long)] (wB a k lab sg cc ci od sd go ta we oe fp r.1 r.2.1 r.2.2.1 r.2.2.2) A) A
def J_B_sumTally_27 (rec3 : Int32 → Int32 → (Nat → Int32) → (Nat → Int64) → (Nat → Int64) → Nat → Nat → Option ((Nat → Int64) × (Nat → Int64) × Nat × Nat)) (rec27 : Int32 → Int32 → Int32 → (Nat → Int32) → (Nat → Int64) → (Nat → Int64) → Nat → Nat → Option ((Nat → Int64) × (Nat → Int64) × Nat × Nat)) (x1 : Int32) (x2 : Int32) (cc : Int32) (ta : Nat → Int32) (ro : Nat → Int64) (sp : Nat → Int64) (qr : Nat) (qs : Nat) : Option ((Nat → Int64) × (Nat → Int64) × Nat × Nat) :=
  (if cc < x2 then rec3 (x1 + (-1)) cc ta ro sp qr qs else (if inb ((x2 * (30 : Int32)) + x1) 330 then (Option.bind (F_P_add (((2 : Int32) * x2) - cc) (((ta ((x2 * (30 : Int32)) + x1).toNatClampNeg)).toInt64) ro) (fun v_3 => rec27 x1 (x2 + 1) cc ta v_3 sp qr qs)) else none))
def L_B_sumTally_27 (rec3 : Int32 → Int32 → (Nat → Int32) → (Nat → Int64) → (Nat → Int64) → Nat → Nat → Option ((Nat → Int64) × (Nat → Int64) × Nat × Nat)) : Nat → Int32 → Int32 → Int32 → (Nat → Int32) → (Nat → Int64) → (Nat → Int64) → Nat → Nat → Option ((Nat → Int64) × (Nat → Int64) × Nat × Nat)
  | 0 => fun _ _ _ _ _ _ _ _ => none
  | n + 1 => J_B_sumTally_27 rec3 (L_B_sumTally_27 rec3 n)
def J_B_sumTally_3 (rec3 : Int32 → Int32 → (Nat → Int32) → (Nat → Int64) → (Nat → Int64) → Nat → Nat → Option ((Nat → Int64) × (Nat → Int64) × Nat × Nat)) (x1 : Int32) (cc : Int32) (ta : Nat → Int32) (ro : Nat → Int64) (sp : Nat → Int64) (qr : Nat) (qs : Nat) : Option ((Nat → Int64) × (Nat → Int64) × Nat × Nat) :=
  (if x1 < (1 : Int32) then some (ro, sp, qr, qs) else (Option.bind (F_P_isZero ro) (fun v_2 => (if v_2 = 0 then (Option.bind (F_P_timesD ro sp qr qs) (fun v_4 => L_B_sumTally_27 rec3 fu x1 (0 : Int32) cc ta v_4.1 v_4.2.1 v_4.2.2.1 v_4.2.2.2)) else L_B_sumTally_27 rec3 fu x1 (0 : Int32) cc ta ro sp qr qs))))
def L_B_sumTally_3 : Nat → Int32 → Int32 → (Nat → Int32) → (Nat → Int64) → (Nat → Int64) → Nat → Nat → Option ((Nat → Int64) × (Nat → Int64) × Nat × Nat)
  | 0 => fun _ _ _ _ _ _ _ => none
  | n + 1 => J_B_sumTally_3 (L_B_sumTally_3 n)
def J_B_sumTally_0 (cc : Int32) (ta : Nat → Int32) (ro : Nat → Int64) (sp : Nat → Int64) (qr : Nat) (qs : Nat) : Option ((Nat → Int64) × (Nat → Int64) × Nat × Nat) :=
  L_B_sumTally_3 fu (29 : Int32) cc ta ro sp qr qs
def F_B_sumTally (cc : Int32) (ta : Nat → Int32) (ro : Nat → Int64) (sp : Nat → Int64) (qr : Nat) (qs : Nat) : Option ((Nat → Int64) × (Nat → Int64) × Nat × Nat) := J_B_sumTally_0 cc ta ro sp qr qs
def H_B_sumTally_27 (p : Program) (l : Launch) (e : Env) (s : State) (m : MethodId) (args : Array Value) (below : List Frame) (meth : Method) (c : Code) (D : va_G) (A : Nat → Prop) (a : Nat → Nat) (k : Nat → ClassId) (lab : Nat → Int32) (sg : Nat → Int32) (ci : Int32) (od : Nat → Int32) (sd : Nat → Int32) (go : Nat → Int32) (we : Int32) (oe : Nat → Int32) (fp : Nat → Int32) (f : Int32 → Int32 → Int32 → (Nat → Int32) → (Nat → Int64) → (Nat → Int64) → Nat → Nat → Option ((Nat → Int64) × (Nat → Int64) × Nat × Nat)) : Prop := ∀ (x1 : Int32) (x2 : Int32) (cc : Int32) (ta : Nat → Int32) (ro : Nat → Int64) (sp : Nat → Int64) (qr : Nat) (qs : Nat) (r : (Nat → Int64) × (Nat → Int64) × Nat × Nat), f x1 x2 cc ta ro sp qr qs = some r → ∀ (H : Heap) (locs : List Loc) (ls : Array Slot), va_P D classes (wB a k lab sg cc ci od sd go ta we oe fp ro sp qr qs) H → va_D A (wB a k lab sg cc ci od sd go ta we oe fp ro sp qr qs) → va_S A s.heap H locs → lv_has ls 3 [(0, .ref (a 0)), (1, .int x1), (2, .int x2)] → W p l e (rm_B_sumTally) s m args below meth c H locs 0 0 (MQ below (qc_B_sumTally D A a k lab sg cc ci od sd go ta we oe fp r) args s 0 0 A) (F0 m 27 ls [])
def H_B_sumTally_3 (p : Program) (l : Launch) (e : Env) (s : State) (m : MethodId) (args : Array Value) (below : List Frame) (meth : Method) (c : Code) (D : va_G) (A : Nat → Prop) (a : Nat → Nat) (k : Nat → ClassId) (lab : Nat → Int32) (sg : Nat → Int32) (ci : Int32) (od : Nat → Int32) (sd : Nat → Int32) (go : Nat → Int32) (we : Int32) (oe : Nat → Int32) (fp : Nat → Int32) (f : Int32 → Int32 → (Nat → Int32) → (Nat → Int64) → (Nat → Int64) → Nat → Nat → Option ((Nat → Int64) × (Nat → Int64) × Nat × Nat)) : Prop := ∀ (x1 : Int32) (cc : Int32) (ta : Nat → Int32) (ro : Nat → Int64) (sp : Nat → Int64) (qr : Nat) (qs : Nat) (r : (Nat → Int64) × (Nat → Int64) × Nat × Nat), f x1 cc ta ro sp qr qs = some r → ∀ (H : Heap) (locs : List Loc) (ls : Array Slot), va_P D classes (wB a k lab sg cc ci od sd go ta we oe fp ro sp qr qs) H → va_D A (wB a k lab sg cc ci od sd go ta we oe fp ro sp qr qs) → va_S A s.heap H locs → lv_has ls 3 [(0, .ref (a 0)), (1, .int x1)] → W p l e (rm_B_sumTally) s m args below meth c H locs 0 0 (MQ below (qc_B_sumTally D A a k lab sg cc ci od sd go ta we oe fp r) args s 0 0 A) (F0 m 3 ls [])
def H_B_sumTally_0 (p : Program) (l : Launch) (e : Env) (s : State) (m : MethodId) (args : Array Value) (below : List Frame) (meth : Method) (c : Code) (D : va_G) (A : Nat → Prop) (a : Nat → Nat) (k : Nat → ClassId) (lab : Nat → Int32) (sg : Nat → Int32) (ci : Int32) (od : Nat → Int32) (sd : Nat → Int32) (go : Nat → Int32) (we : Int32) (oe : Nat → Int32) (fp : Nat → Int32) (f : Int32 → (Nat → Int32) → (Nat → Int64) → (Nat → Int64) → Nat → Nat → Option ((Nat → Int64) × (Nat → Int64) × Nat × Nat)) : Prop := ∀ (cc : Int32) (ta : Nat → Int32) (ro : Nat → Int64) (sp : Nat → Int64) (qr : Nat) (qs : Nat) (r : (Nat → Int64) × (Nat → Int64) × Nat × Nat), f cc ta ro sp qr qs = some r → ∀ (H : Heap) (locs : List Loc) (ls : Array Slot), va_P D classes (wB a k lab sg cc ci od sd go ta we oe fp ro sp qr qs) H → va_D A (wB a k lab sg cc ci od sd go ta we oe fp ro sp qr qs) → va_S A s.heap H locs → lv_has ls 3 [(0, .ref (a 0))] → W p l e (rm_B_sumTally) s m args below meth c H locs 0 0 (MQ below (qc_B_sumTally D A a k lab sg cc ci od sd go ta we oe fp r) args s 0 0 A) (F0 m 0 ls [])
set_option maxHeartbeats 4000000 in
set_option maxRecDepth 100000 in
theorem k_B_sumTally_27 {p : Program} {l : Launch} {e : Env} {s : State} {m : MethodId} {args : Array Value} {below : List Frame} {meth : Method} {c : Code} {D : va_G} {A : Nat → Prop} {a : Nat → Nat} {k : Nat → ClassId} {lab : Nat → Int32} {sg : Nat → Int32} {ci : Int32} {od : Nat → Int32} {sd : Nat → Int32} {go : Nat → Int32} {we : Int32} {oe : Nat → Int32} {fp : Nat → Int32} {rec3 : Int32 → Int32 → (Nat → Int32) → (Nat → Int64) → (Nat → Int64) → Nat → Nat → Option ((Nat → Int64) × (Nat → Int64) × Nat × Nat)} {rec27 : Int32 → Int32 → Int32 → (Nat → Int32) → (Nat → Int64) → (Nat → Int64) → Nat → Nat → Option ((Nat → Int64) × (Nat → Int64) × Nat × Nat)} (C : cx D [(k 1, .int), (k 2, .int), (k 3, .int), (k 4, .int), (k 5, .boolean), (k 6, .int), (k 8, .int), (k 9, .int), (k 11, .long)] R_B b_B_sumTally 3 none A p s m args meth c) (hrec3 : H_B_sumTally_3 p l e s m args below meth c D A a k lab sg ci od sd go we oe fp rec3) (hrec27 : H_B_sumTally_27 p l e s m args below meth c D A a k lab sg ci od sd go we oe fp rec27) : H_B_sumTally_27 p l e s m args below meth c D A a k lab sg ci od sd go we oe fp (J_B_sumTally_27 rec3 rec27) := by
  obtain ⟨hx, hb, hr, hml, hown, ht, hlk, hA, hK⟩ := id C
  intro x1 x2 cc ta ro sp qr qs r h H locs ls hP hD hS hl
  unfold J_B_sumTally_27 at h
  refine lv_iload_n hx hb d_B_sumTally_27 rfl (lv_at hl 2 rfl) ?_
  refine lv_aload_n hx hb d_B_sumTally_28 rfl (lv_at hl 0 rfl) ?_
  refine va_get (D := D) (ci := 0) (v := .int cc) (C := R_B) (T := F_B) (N := 11) hx hb ht iC_B hown hK hP 0 rfl rfl 2 (by decide) (ht _ ix_38) (fun _ h9 => h9) rfl d_B_sumTally_29 ?_
  refine lv_icmp_gt (tgt := 68) hx hb d_B_sumTally_32 (by decide) (fun c_1 => ?_) (fun c_1 => ?_)
  · have h := ite_T c_1 h
    refine lv_iinc (v := x1 + (-1)) (lv' := [(1, .int (x1 + (-1))), (0, .ref (a 0)), (2, .int x2)]) hx hb d_B_sumTally_68 hl (k := 1) rfl rfl (by decide) rfl (fun ls hl => ?_)
    refine lv_goto (tgt := 3) hx hb d_B_sumTally_71 (by decide) ?_
    exact hrec3 _ _ _ _ _ _ _ _ h _ _ _ hP hD hS (lv_sub hl [1, 0] rfl)
  · have h := ite_F c_1 h
    refine lv_aload_n hx hb d_B_sumTally_35 rfl (lv_at hl 0 rfl) ?_
    refine va_get (D := D) (ci := 0) (v := .ref (a 10)) (C := R_B) (T := F_B) (N := 11) hx hb ht iC_B hown hK hP 0 rfl rfl 9 (by decide) (ht _ ix_88) (fun _ h9 => h9) rfl d_B_sumTally_36 ?_
    refine lv_iconst (v := 2) hx hb d_B_sumTally_39 (by decide) ?_
    refine lv_iload_n hx hb d_B_sumTally_40 rfl (lv_at hl 2 rfl) ?_
    refine lv_imul hx hb d_B_sumTally_41 ?_
    refine lv_aload_n hx hb d_B_sumTally_42 rfl (lv_at hl 0 rfl) ?_
    refine va_get (D := D) (ci := 0) (v := .int cc) (C := R_B) (T := F_B) (N := 11) hx hb ht iC_B hown hK hP 0 rfl rfl 2 (by decide) (ht _ ix_38) (fun _ h9 => h9) rfl d_B_sumTally_43 ?_
    refine lv_isub hx hb d_B_sumTally_46 ?_
    refine lv_aload_n hx hb d_B_sumTally_47 rfl (lv_at hl 0 rfl) ?_
    refine va_get (D := D) (ci := 0) (v := .ref (a 6)) (C := R_B) (T := F_B) (N := 11) hx hb ht iC_B hown hK hP 0 rfl rfl 7 (by decide) (ht _ ix_83) (fun _ h9 => h9) rfl d_B_sumTally_48 ?_
    refine lv_iload_n hx hb d_B_sumTally_51 rfl (lv_at hl 2 rfl) ?_
    refine lv_bipush (v := 30) hx hb d_B_sumTally_52 (by decide) ?_
    refine lv_imul hx hb d_B_sumTally_54 ?_
    refine lv_iload_n hx hb d_B_sumTally_55 rfl (lv_at hl 1 rfl) ?_
    refine lv_iadd hx hb d_B_sumTally_56 ?_
    obtain ⟨g_2, h⟩ := gd_some h
    refine va_iald hx hb hK hP 6 5 rfl rfl (inb_in g_2) d_B_sumTally_57 ?_
    refine lv_i2l (v := ((ta ((x2 * (30 : Int32)) + x1).toNatClampNeg)).toInt64) hx hb d_B_sumTally_58 rfl ?_
    obtain ⟨v_3, e_3, h⟩ := bd_some h
    refine go_Vv (As := [.int (((2 : Int32) * x2) - cc), .long (((ta ((x2 * (30 : Int32)) + x1).toNatClampNeg)).toInt64)]) (rest := []) (wc := (wP a k ro sp qr qs)) (wr := [((a 0), .inr (0, [.ref (a 1), .ref (a 2), .int cc, .int ci, .ref (a 3), .ref (a 4), .ref (a 5), .ref (a 6), .ref (a 7), .ref (a 10), .int we])), ((a 1), .inl (k 1, 40, .inl lab)), ((a 2), .inl (k 2, 10, .inl sg)), ((a 3), .inl (k 3, 10, .inl od)), ((a 4), .inl (k 4, 100, .inl sd)), ((a 5), .inl (k 5, 10, .inl go)), ((a 6), .inl (k 6, 330, .inl ta)), ((a 7), .inr (1, [.ref (a 8), .ref (a 9)])), ((a 8), .inl (k 8, 40, .inl oe)), ((a 9), .inl (k 9, 100, .inl fp))]) (w1 := (wP a k v_3 sp qr qs)) (w2 := (wB a k lab sg cc ci od sd go ta we oe fp v_3 sp qr qs)) (tc := [(k 11, .long)]) hx hb hml hown ht (c_P_add l D a k H.size (((2 : Int32) * x2) - cc) (((ta ((x2 * (30 : Int32)) + x1).toNatClampNeg)).toInt64) ro sp qr qs v_3 e_3) g_B_169 ⟨rfl, rfl⟩ (n := 2) (by decide +kernel) ⟨(Nat.le_of_ble_eq_true rfl), (Nat.le_of_ble_eq_true rfl)⟩ hP hD hK hS hA ⟨Nat.zero_le _, Nat.zero_le _⟩ [10, 11, 12] [0, 1, 2, 3, 4, 5, 6, 7, 8, 9] [8] [0, 1, 2, 3, 4, 5, 6, 7, 8, 9, 10, 11, 12] rfl rfl rfl rfl (by decide) (by decide) (by decide) rfl (by decide) 0 rfl rfl rfl rfl rfl hl.1 (Nat.le_of_ble_eq_true rfl) d_B_sumTally_59 (fun H locs hP hD hS => ?_)
    refine lv_iinc (v := x2 + 1) (lv' := [(2, .int (x2 + 1)), (0, .ref (a 0)), (1, .int x1)]) hx hb d_B_sumTally_62 hl (k := 2) rfl rfl (by decide) rfl (fun ls hl => ?_)
    refine lv_goto (tgt := 27) hx hb d_B_sumTally_65 (by decide) ?_
    exact hrec27 _ _ _ _ _ _ _ _ _ h _ _ _ hP hD hS (lv_sub hl [1, 2, 0] rfl)
theorem k_B_sumTally_27_L {p : Program} {l : Launch} {e : Env} {s : State} {m : MethodId} {args : Array Value} {below : List Frame} {meth : Method} {c : Code} {D : va_G} {A : Nat → Prop} {a : Nat → Nat} {k : Nat → ClassId} {lab : Nat → Int32} {sg : Nat → Int32} {ci : Int32} {od : Nat → Int32} {sd : Nat → Int32} {go : Nat → Int32} {we : Int32} {oe : Nat → Int32} {fp : Nat → Int32} {rec3 : Int32 → Int32 → (Nat → Int32) → (Nat → Int64) → (Nat → Int64) → Nat → Nat → Option ((Nat → Int64) × (Nat → Int64) × Nat × Nat)} (C : cx D [(k 1, .int), (k 2, .int), (k 3, .int), (k 4, .int), (k 5, .boolean), (k 6, .int), (k 8, .int), (k 9, .int), (k 11, .long)] R_B b_B_sumTally 3 none A p s m args meth c) (hrec3 : H_B_sumTally_3 p l e s m args below meth c D A a k lab sg ci od sd go we oe fp rec3) : ∀ n : Nat, H_B_sumTally_27 p l e s m args below meth c D A a k lab sg ci od sd go we oe fp (L_B_sumTally_27 rec3 n)
  | 0 => fun _ _ _ _ _ _ _ _ _ h => nomatch h
  | n + 1 => k_B_sumTally_27 C hrec3 (k_B_sumTally_27_L C hrec3 n)
set_option maxHeartbeats 4000000 in
set_option maxRecDepth 100000 in
theorem k_B_sumTally_3 {p : Program} {l : Launch} {e : Env} {s : State} {m : MethodId} {args : Array Value} {below : List Frame} {meth : Method} {c : Code} {D : va_G} {A : Nat → Prop} {a : Nat → Nat} {k : Nat → ClassId} {lab : Nat → Int32} {sg : Nat → Int32} {ci : Int32} {od : Nat → Int32} {sd : Nat → Int32} {go : Nat → Int32} {we : Int32} {oe : Nat → Int32} {fp : Nat → Int32} {rec3 : Int32 → Int32 → (Nat → Int32) → (Nat → Int64) → (Nat → Int64) → Nat → Nat → Option ((Nat → Int64) × (Nat → Int64) × Nat × Nat)} (C : cx D [(k 1, .int), (k 2, .int), (k 3, .int), (k 4, .int), (k 5, .boolean), (k 6, .int), (k 8, .int), (k 9, .int), (k 11, .long)] R_B b_B_sumTally 3 none A p s m args meth c) (hrec3 : H_B_sumTally_3 p l e s m args below meth c D A a k lab sg ci od sd go we oe fp rec3) : H_B_sumTally_3 p l e s m args below meth c D A a k lab sg ci od sd go we oe fp (J_B_sumTally_3 rec3) := by
  obtain ⟨hx, hb, hr, hml, hown, ht, hlk, hA, hK⟩ := id C
  intro x1 cc ta ro sp qr qs r h H locs ls hP hD hS hl
  unfold J_B_sumTally_3 at h
  refine lv_iload_n hx hb d_B_sumTally_3 rfl (lv_at hl 1 rfl) ?_
  refine lv_iconst (v := 1) hx hb d_B_sumTally_4 (by decide) ?_
  refine lv_icmp_lt (tgt := 74) hx hb d_B_sumTally_5 (by decide) (fun c_1 => ?_) (fun c_1 => ?_)
  · have h := ite_T c_1 h
    cases h
    exact W.vret hx hb hr (fun t ht hW => ⟨⟨(), rfl, trivial, by rw [ht]; exact hP, va_K.moved hW.alike hK, hD⟩, hS.F ht⟩) hS.2.2 d_B_sumTally_74 hlk
  · have h := ite_F c_1 h
    refine lv_aload_n hx hb d_B_sumTally_8 rfl (lv_at hl 0 rfl) ?_
    refine va_get (D := D) (ci := 0) (v := .ref (a 10)) (C := R_B) (T := F_B) (N := 11) hx hb ht iC_B hown hK hP 0 rfl rfl 9 (by decide) (ht _ ix_88) (fun _ h9 => h9) rfl d_B_sumTally_9 ?_
    obtain ⟨v_2, e_2, h⟩ := bd_some h
    refine go_Vi (r := v_2) (As := []) (rest := []) (wc := (wP a k ro sp qr qs)) (wr := [((a 0), .inr (0, [.ref (a 1), .ref (a 2), .int cc, .int ci, .ref (a 3), .ref (a 4), .ref (a 5), .ref (a 6), .ref (a 7), .ref (a 10), .int we])), ((a 1), .inl (k 1, 40, .inl lab)), ((a 2), .inl (k 2, 10, .inl sg)), ((a 3), .inl (k 3, 10, .inl od)), ((a 4), .inl (k 4, 100, .inl sd)), ((a 5), .inl (k 5, 10, .inl go)), ((a 6), .inl (k 6, 330, .inl ta)), ((a 7), .inr (1, [.ref (a 8), .ref (a 9)])), ((a 8), .inl (k 8, 40, .inl oe)), ((a 9), .inl (k 9, 100, .inl fp))]) (w1 := (wP a k ro sp qr qs)) (w2 := (wB a k lab sg cc ci od sd go ta we oe fp ro sp qr qs)) (tc := [(k 11, .long)]) hx hb hml hown ht (c_P_isZero l D a k H.size ro sp qr qs v_2 e_2) g_B_100 ⟨rfl, rfl⟩ (n := 0) (by decide +kernel) ⟨(Nat.le_of_ble_eq_true rfl), (Nat.le_of_ble_eq_true rfl)⟩ hP hD hK hS hA ⟨Nat.zero_le _, Nat.zero_le _⟩ [10, 11, 12] [0, 1, 2, 3, 4, 5, 6, 7, 8, 9] [8] [0, 1, 2, 3, 4, 5, 6, 7, 8, 9, 10, 11, 12] rfl rfl rfl rfl (by decide) (by decide) (by decide) rfl (by decide) 0 rfl rfl rfl rfl rfl hl.1 (Nat.le_of_ble_eq_true rfl) d_B_sumTally_12 (fun H locs hP hD hS => ?_)
    refine lv_if_ne (tgt := 25) hx hb d_B_sumTally_15 (by decide) (fun c_3 => ?_) (fun c_3 => ?_)
    · have h := ite_F c_3 h
      refine lv_iconst (v := 0) hx hb d_B_sumTally_25 (by decide) ?_
      refine lv_istore_n (lv' := [(2, .int (0 : Int32)), (0, .ref (a 0)), (1, .int x1)]) hx hb d_B_sumTally_26 rfl hl (by decide) rfl (fun ls hl => ?_)
      exact (k_B_sumTally_27_L C hrec3 fu) _ _ _ _ _ _ _ _ _ h _ _ _ hP hD hS (lv_sub hl [1, 2, 0] rfl)
    · have h := ite_T c_3 h
      refine lv_aload_n hx hb d_B_sumTally_18 rfl (lv_at hl 0 rfl) ?_
      refine va_get (D := D) (ci := 0) (v := .ref (a 10)) (C := R_B) (T := F_B) (N := 11) hx hb ht iC_B hown hK hP 0 rfl rfl 9 (by decide) (ht _ ix_88) (fun _ h9 => h9) rfl d_B_sumTally_19 ?_
      obtain ⟨v_4, e_4, h⟩ := bd_some h
      refine go_Vv (As := []) (rest := []) (wc := (wP a k ro sp qr qs)) (wr := [((a 0), .inr (0, [.ref (a 1), .ref (a 2), .int cc, .int ci, .ref (a 3), .ref (a 4), .ref (a 5), .ref (a 6), .ref (a 7), .ref (a 10), .int we])), ((a 1), .inl (k 1, 40, .inl lab)), ((a 2), .inl (k 2, 10, .inl sg)), ((a 3), .inl (k 3, 10, .inl od)), ((a 4), .inl (k 4, 100, .inl sd)), ((a 5), .inl (k 5, 10, .inl go)), ((a 6), .inl (k 6, 330, .inl ta)), ((a 7), .inr (1, [.ref (a 8), .ref (a 9)])), ((a 8), .inl (k 8, 40, .inl oe)), ((a 9), .inl (k 9, 100, .inl fp))]) (w1 := (wP a k v_4.1 v_4.2.1 v_4.2.2.1 v_4.2.2.2)) (w2 := (wB a k lab sg cc ci od sd go ta we oe fp v_4.1 v_4.2.1 v_4.2.2.1 v_4.2.2.2)) (tc := [(k 11, .long)]) hx hb hml hown ht (c_P_timesD l D a k H.size ro sp qr qs v_4 e_4) g_B_166 ⟨rfl, rfl⟩ (n := 0) (by decide +kernel) ⟨(Nat.le_of_ble_eq_true rfl), (Nat.le_of_ble_eq_true rfl)⟩ hP hD hK hS hA ⟨Nat.zero_le _, Nat.zero_le _⟩ [10, 11, 12] [0, 1, 2, 3, 4, 5, 6, 7, 8, 9] [8] [0, 1, 2, 3, 4, 5, 6, 7, 8, 9, 10, 11, 12] rfl rfl rfl rfl (by decide) (by decide) (by decide) rfl (by decide) 0 rfl rfl rfl rfl rfl hl.1 (Nat.le_of_ble_eq_true rfl) d_B_sumTally_22 (fun H locs hP hD hS => ?_)
      refine lv_iconst (v := 0) hx hb d_B_sumTally_25 (by decide) ?_
      refine lv_istore_n (lv' := [(2, .int (0 : Int32)), (0, .ref (a 0)), (1, .int x1)]) hx hb d_B_sumTally_26 rfl hl (by decide) rfl (fun ls hl => ?_)
      exact (k_B_sumTally_27_L C hrec3 fu) _ _ _ _ _ _ _ _ _ h _ _ _ hP hD hS (lv_sub hl [1, 2, 0] rfl)
theorem k_B_sumTally_3_L {p : Program} {l : Launch} {e : Env} {s : State} {m : MethodId} {args : Array Value} {below : List Frame} {meth : Method} {c : Code} {D : va_G} {A : Nat → Prop} {a : Nat → Nat} {k : Nat → ClassId} {lab : Nat → Int32} {sg : Nat → Int32} {ci : Int32} {od : Nat → Int32} {sd : Nat → Int32} {go : Nat → Int32} {we : Int32} {oe : Nat → Int32} {fp : Nat → Int32} (C : cx D [(k 1, .int), (k 2, .int), (k 3, .int), (k 4, .int), (k 5, .boolean), (k 6, .int), (k 8, .int), (k 9, .int), (k 11, .long)] R_B b_B_sumTally 3 none A p s m args meth c) : ∀ n : Nat, H_B_sumTally_3 p l e s m args below meth c D A a k lab sg ci od sd go we oe fp (L_B_sumTally_3 n)
  | 0 => fun _ _ _ _ _ _ _ _ h => nomatch h
  | n + 1 => k_B_sumTally_3 C (k_B_sumTally_3_L C n)
set_option maxHeartbeats 4000000 in
set_option maxRecDepth 100000 in
theorem k_B_sumTally_0 {p : Program} {l : Launch} {e : Env} {s : State} {m : MethodId} {args : Array Value} {below : List Frame} {meth : Method} {c : Code} {D : va_G} {A : Nat → Prop} {a : Nat → Nat} {k : Nat → ClassId} {lab : Nat → Int32} {sg : Nat → Int32} {ci : Int32} {od : Nat → Int32} {sd : Nat → Int32} {go : Nat → Int32} {we : Int32} {oe : Nat → Int32} {fp : Nat → Int32} (C : cx D [(k 1, .int), (k 2, .int), (k 3, .int), (k 4, .int), (k 5, .boolean), (k 6, .int), (k 8, .int), (k 9, .int), (k 11, .long)] R_B b_B_sumTally 3 none A p s m args meth c) : H_B_sumTally_0 p l e s m args below meth c D A a k lab sg ci od sd go we oe fp (J_B_sumTally_0) := by
  obtain ⟨hx, hb, hr, hml, hown, ht, hlk, hA, hK⟩ := id C
  intro cc ta ro sp qr qs r h H locs ls hP hD hS hl
  unfold J_B_sumTally_0 at h
  refine lv_bipush (v := 29) hx hb d_B_sumTally_0 (by decide) ?_
  refine lv_istore_n (lv' := [(1, .int (29 : Int32)), (0, .ref (a 0))]) hx hb d_B_sumTally_2 rfl hl (by decide) rfl (fun ls hl => ?_)
  exact (k_B_sumTally_3_L C fu) _ _ _ _ _ _ _ _ h _ _ _ hP hD hS (lv_sub hl [1, 0] rfl)
set_option maxRecDepth 20000 in
theorem c_B_sumTally (l : Launch) (D : va_G) (a : Nat → Nat) (k : Nat → ClassId) (sz : Nat) (lab : Nat → Int32) (sg : Nat → Int32) (cc : Int32) (ci : Int32) (od : Nat → Int32) (sd : Nat → Int32) (go : Nat → Int32) (ta : Nat → Int32) (we : Int32) (oe : Nat → Int32) (fp : Nat → Int32) (ro : Nat → Int64) (sp : Nat → Int64) (qr : Nat) (qs : Nat) (r : (Nat → Int64) × (Nat → Int64) × Nat × Nat) (h : F_B_sumTally cc ta ro sp qr qs = some r) : Met l y_B_sumTally (Cond.code y_B_sumTally b_B_sumTally 3 none :: lw_g) (rm_B_sumTally) (va_Pc [.ref (a 0)] (pcW D [(k 1, .int), (k 2, .int), (k 3, .int), (k 4, .int), (k 5, .boolean), (k 6, .int), (k 8, .int), (k 9, .int), (k 11, .long)] (wB a k lab sg cc ci od sd go ta we oe fp ro sp qr qs) sz)) (qc_B_sumTally D (va_A (wB a k lab sg cc ci od sd go ta we oe fp ro sp qr qs) sz) a k lab sg cc ci od sd go ta we oe fp r) 0 0 (va_A (wB a k lab sg cc ci od sd go ta we oe fp ro sp qr qs) sz) := by
  refine Met.ofW (cc := b_B_sumTally) (maxL := 3) (ret := none) (by decide) rfl ?_
  intro p e s m args below meth c s₁ B hml hv
  obtain ⟨rfl, hsz, hP, hK, hD0⟩ := hv
  have hts := atoms_spec (ws := Cond.code y_B_sumTally b_B_sumTally 3 none :: lw_g) B.pre
  subst hsz
  have hD := hD0.self (sz := s.heap.size)
  have hl := lv_entry ([.ref (a 0)]) (n := 3) (Nat.le_of_ble_eq_true rfl)
  rw [lg_entry_eq]
  generalize (lg_sl ([.ref (a 0)]) ++ List.replicate (3 - (lg_sl ([.ref (a 0)])).length) Slot.unset).toArray = ls at hl ⊢
  exact k_B_sumTally_0 ⟨B.exec, B.bytes, B.returns, hml, findClass_of_methodNamed B.named, fun w hw => hts w (List.mem_cons_of_mem _ hw), B.notSynchronized, fun q h => Or.inr h, hK⟩ _ _ _ _ _ _ _ h _ _ _ hP hD va_S.rf hl

def rm_B_workOut : Room := { frames := 16, cells := 0, slots := 0, locals := 406 }
def qc_B_workOut (D : va_G) (A : Nat → Prop) (a : Nat → Nat) (k : Nat → ClassId) (lab : Nat → Int32) (sg : Nat → Int32) (cc : Int32) (ci : Int32) (od : Nat → Int32) (go : Nat → Int32) (r : (Nat → Int32) × (Nat → Int32) × Int32 × (Nat → Int32) × (Nat → Int32) × (Nat → Int64) × (Nat → Int64) × Nat × Nat) : Array Value → State → Outcome → State → Prop := va_Qv (fun (_ : Unit) => True) (poW D [(k 1, .int), (k 2, .int), (k 3, .int), (k 4, .int), (k 5, .boolean), (k 6, .int), (k 8, .int), (k 9, .int), (k 11, .long)] (wB a k lab sg cc ci od r.1 go r.2.1 r.2.2.1 r.2.2.2.1 r.2.2.2.2.1 r.2.2.2.2.2.1 r.2.2.2.2.2.2.1 r.2.2.2.2.2.2.2.1 r.2.2.2.2.2.2.2.2) A) A
def J_B_workOut_0 (lab : Nat → Int32) (cc : Int32) (ci : Int32) (od : Nat → Int32) (sd : Nat → Int32) (ta : Nat → Int32) (we : Int32) (oe : Nat → Int32) (fp : Nat → Int32) (ro : Nat → Int64) (sp : Nat → Int64) (qr : Nat) (qs : Nat) : Option ((Nat → Int32) × (Nat → Int32) × Int32 × (Nat → Int32) × (Nat → Int32) × (Nat → Int64) × (Nat → Int64) × Nat × Nat) :=
  (if we = 0 then (Option.bind (F_P_setZero ro) (fun v_2 => (Option.bind (F_B_isCode lab cc sd) (fun v_3 => (if v_3.1 = 0 then some (v_3.2, ta, (1 : Int32), oe, fp, v_2, sp, qr, qs) else (Option.bind (F_B_tallyStates lab cc ci od ta oe fp) (fun v_5 => (Option.bind (F_B_sumTally cc v_5.1 v_2 sp qr qs) (fun v_6 => some (v_3.2, v_5.1, (1 : Int32), v_5.2.1, v_5.2.2, v_6.1, v_6.2.1, v_6.2.2.1, v_6.2.2.2)))))))))) else some (sd, ta, we, oe, fp, ro, sp, qr, qs))
def F_B_workOut (lab : Nat → Int32) (cc : Int32) (ci : Int32) (od : Nat → Int32) (sd : Nat → Int32) (ta : Nat → Int32) (we : Int32) (oe : Nat → Int32) (fp : Nat → Int32) (ro : Nat → Int64) (sp : Nat → Int64) (qr : Nat) (qs : Nat) : Option ((Nat → Int32) × (Nat → Int32) × Int32 × (Nat → Int32) × (Nat → Int32) × (Nat → Int64) × (Nat → Int64) × Nat × Nat) := J_B_workOut_0 lab cc ci od sd ta we oe fp ro sp qr qs
def H_B_workOut_0 (p : Program) (l : Launch) (e : Env) (s : State) (m : MethodId) (args : Array Value) (below : List Frame) (meth : Method) (c : Code) (D : va_G) (A : Nat → Prop) (a : Nat → Nat) (k : Nat → ClassId) (sg : Nat → Int32) (go : Nat → Int32) (f : (Nat → Int32) → Int32 → Int32 → (Nat → Int32) → (Nat → Int32) → (Nat → Int32) → Int32 → (Nat → Int32) → (Nat → Int32) → (Nat → Int64) → (Nat → Int64) → Nat → Nat → Option ((Nat → Int32) × (Nat → Int32) × Int32 × (Nat → Int32) × (Nat → Int32) × (Nat → Int64) × (Nat → Int64) × Nat × Nat)) : Prop := ∀ (lab : Nat → Int32) (cc : Int32) (ci : Int32) (od : Nat → Int32) (sd : Nat → Int32) (ta : Nat → Int32) (we : Int32) (oe : Nat → Int32) (fp : Nat → Int32) (ro : Nat → Int64) (sp : Nat → Int64) (qr : Nat) (qs : Nat) (r : (Nat → Int32) × (Nat → Int32) × Int32 × (Nat → Int32) × (Nat → Int32) × (Nat → Int64) × (Nat → Int64) × Nat × Nat), f lab cc ci od sd ta we oe fp ro sp qr qs = some r → ∀ (H : Heap) (locs : List Loc) (ls : Array Slot), va_P D classes (wB a k lab sg cc ci od sd go ta we oe fp ro sp qr qs) H → va_D A (wB a k lab sg cc ci od sd go ta we oe fp ro sp qr qs) → va_S A s.heap H locs → lv_has ls 1 [(0, .ref (a 0))] → W p l e (rm_B_workOut) s m args below meth c H locs 0 0 (MQ below (qc_B_workOut D A a k lab sg cc ci od go r) args s 0 0 A) (F0 m 0 ls [])
set_option maxHeartbeats 4000000 in
set_option maxRecDepth 100000 in
theorem k_B_workOut_0 {p : Program} {l : Launch} {e : Env} {s : State} {m : MethodId} {args : Array Value} {below : List Frame} {meth : Method} {c : Code} {D : va_G} {A : Nat → Prop} {a : Nat → Nat} {k : Nat → ClassId} {sg : Nat → Int32} {go : Nat → Int32} (C : cx D [(k 1, .int), (k 2, .int), (k 3, .int), (k 4, .int), (k 5, .boolean), (k 6, .int), (k 8, .int), (k 9, .int), (k 11, .long)] R_B b_B_workOut 1 none A p s m args meth c) : H_B_workOut_0 p l e s m args below meth c D A a k sg go (J_B_workOut_0) := by
  obtain ⟨hx, hb, hr, hml, hown, ht, hlk, hA, hK⟩ := id C
  intro lab cc ci od sd ta we oe fp ro sp qr qs r h H locs ls hP hD hS hl
  unfold J_B_workOut_0 at h
  refine lv_aload_n hx hb d_B_workOut_0 rfl (lv_at hl 0 rfl) ?_
  refine va_get (D := D) (ci := 0) (v := .int we) (C := R_B) (T := F_B) (N := 11) hx hb ht iC_B hown hK hP 0 rfl rfl 10 (by decide) (ht _ ix_39) (fun _ h9 => h9) rfl d_B_workOut_1 ?_
  refine lv_if_eq (tgt := 8) hx hb d_B_workOut_4 (by decide) (fun c_1 => ?_) (fun c_1 => ?_)
  · have h := ite_T c_1 h
    refine lv_aload_n hx hb d_B_workOut_8 rfl (lv_at hl 0 rfl) ?_
    refine va_get (D := D) (ci := 0) (v := .ref (a 10)) (C := R_B) (T := F_B) (N := 11) hx hb ht iC_B hown hK hP 0 rfl rfl 9 (by decide) (ht _ ix_88) (fun _ h9 => h9) rfl d_B_workOut_9 ?_
    obtain ⟨v_2, e_2, h⟩ := bd_some h
    refine go_Vv (As := []) (rest := []) (wc := (wP a k ro sp qr qs)) (wr := [((a 0), .inr (0, [.ref (a 1), .ref (a 2), .int cc, .int ci, .ref (a 3), .ref (a 4), .ref (a 5), .ref (a 6), .ref (a 7), .ref (a 10), .int we])), ((a 1), .inl (k 1, 40, .inl lab)), ((a 2), .inl (k 2, 10, .inl sg)), ((a 3), .inl (k 3, 10, .inl od)), ((a 4), .inl (k 4, 100, .inl sd)), ((a 5), .inl (k 5, 10, .inl go)), ((a 6), .inl (k 6, 330, .inl ta)), ((a 7), .inr (1, [.ref (a 8), .ref (a 9)])), ((a 8), .inl (k 8, 40, .inl oe)), ((a 9), .inl (k 9, 100, .inl fp))]) (w1 := (wP a k v_2 sp qr qs)) (w2 := (wB a k lab sg cc ci od sd go ta we oe fp v_2 sp qr qs)) (tc := [(k 11, .long)]) hx hb hml hown ht (c_P_setZero l D a k H.size ro sp qr qs v_2 e_2) g_B_149 ⟨rfl, rfl⟩ (n := 0) (by decide +kernel) ⟨(Nat.le_of_ble_eq_true rfl), (Nat.le_of_ble_eq_true rfl)⟩ hP hD hK hS hA ⟨Nat.zero_le _, Nat.zero_le _⟩ [10, 11, 12] [0, 1, 2, 3, 4, 5, 6, 7, 8, 9] [8] [0, 1, 2, 3, 4, 5, 6, 7, 8, 9, 10, 11, 12] rfl rfl rfl rfl (by decide) (by decide) (by decide) rfl (by decide) 0 rfl rfl rfl rfl rfl hl.1 (Nat.le_of_ble_eq_true rfl) d_B_workOut_12 (fun H locs hP hD hS => ?_)
    refine lv_aload_n hx hb d_B_workOut_15 rfl (lv_at hl 0 rfl) ?_
    obtain ⟨v_3, e_3, h⟩ := bd_some h
    refine go_Vi (r := v_3.1) (As := []) (rest := []) (wc := (wB a k lab sg cc ci od sd go ta we oe fp v_2 sp qr qs)) (wr := []) (w1 := (wB a k lab sg cc ci od v_3.2 go ta we oe fp v_2 sp qr qs)) (w2 := (wB a k lab sg cc ci od v_3.2 go ta we oe fp v_2 sp qr qs)) (tc := [(k 1, .int), (k 2, .int), (k 3, .int), (k 4, .int), (k 5, .boolean), (k 6, .int), (k 8, .int), (k 9, .int), (k 11, .long)]) hx hb hml hown ht (c_B_isCode l D a k H.size lab sg cc ci od sd go ta we oe fp v_2 sp qr qs v_3 e_3) g_B_67 ⟨rfl, rfl⟩ (n := 0) (by decide +kernel) ⟨(Nat.le_of_ble_eq_true rfl), (Nat.le_of_ble_eq_true rfl)⟩ hP hD hK hS hA ⟨Nat.zero_le _, Nat.zero_le _⟩ [0, 1, 2, 3, 4, 5, 6, 7, 8, 9, 10, 11, 12] [] [0, 1, 2, 3, 4, 5, 6, 7, 8] [0, 1, 2, 3, 4, 5, 6, 7, 8, 9, 10, 11, 12] rfl rfl rfl rfl (by decide) (by decide) (by decide) rfl (by decide) 0 rfl rfl rfl rfl rfl hl.1 (Nat.le_of_ble_eq_true rfl) d_B_workOut_16 (fun H locs hP hD hS => ?_)
    refine lv_if_eq (tgt := 30) hx hb d_B_workOut_19 (by decide) (fun c_4 => ?_) (fun c_4 => ?_)
    · have h := ite_T c_4 h
      refine lv_aload_n hx hb d_B_workOut_30 rfl (lv_at hl 0 rfl) ?_
      refine lv_iconst (v := 1) hx hb d_B_workOut_31 (by decide) ?_
      refine va_put (D := D) (ci := 0) (v := .int (1 : Int32)) (ty := .boolean) (C := R_B) (T := F_B) (N := 11) hx hb ht iC_B t_B t_B_ok n_B hown hK hP hD hS 0 rfl rfl 10 (by decide) (ht _ ix_39) (fun _ h9 => h9) rfl (by decide +kernel) rfl rfl (Nat.le_of_ble_eq_true rfl) d_B_workOut_32 (fun H locs hP hD hS => ?_)
      have hP : va_P D classes (wB a k lab sg cc ci od v_3.2 go ta (1 : Int32) oe fp v_2 sp qr qs) H := hP
      have hD : va_D A (wB a k lab sg cc ci od v_3.2 go ta (1 : Int32) oe fp v_2 sp qr qs) := hD
      cases h
      exact W.vret hx hb hr (fun t ht hW => ⟨⟨(), rfl, trivial, by rw [ht]; exact hP, va_K.moved hW.alike hK, hD⟩, hS.F ht⟩) hS.2.2 d_B_workOut_35 hlk
    · have h := ite_F c_4 h
      refine lv_aload_n hx hb d_B_workOut_22 rfl (lv_at hl 0 rfl) ?_
      obtain ⟨v_5, e_5, h⟩ := bd_some h
      refine go_Vv (As := []) (rest := []) (wc := (wB a k lab sg cc ci od v_3.2 go ta we oe fp v_2 sp qr qs)) (wr := []) (w1 := (wB a k lab sg cc ci od v_3.2 go v_5.1 we v_5.2.1 v_5.2.2 v_2 sp qr qs)) (w2 := (wB a k lab sg cc ci od v_3.2 go v_5.1 we v_5.2.1 v_5.2.2 v_2 sp qr qs)) (tc := [(k 1, .int), (k 2, .int), (k 3, .int), (k 4, .int), (k 5, .boolean), (k 6, .int), (k 8, .int), (k 9, .int), (k 11, .long)]) hx hb hml hown ht (c_B_tallyStates l D a k H.size lab sg cc ci od v_3.2 go ta we oe fp v_2 sp qr qs v_5 e_5) g_B_152 ⟨rfl, rfl⟩ (n := 0) (by decide +kernel) ⟨(Nat.le_of_ble_eq_true rfl), (Nat.le_of_ble_eq_true rfl)⟩ hP hD hK hS hA ⟨Nat.zero_le _, Nat.zero_le _⟩ [0, 1, 2, 3, 4, 5, 6, 7, 8, 9, 10, 11, 12] [] [0, 1, 2, 3, 4, 5, 6, 7, 8] [0, 1, 2, 3, 4, 5, 6, 7, 8, 9, 10, 11, 12] rfl rfl rfl rfl (by decide) (by decide) (by decide) rfl (by decide) 0 rfl rfl rfl rfl rfl hl.1 (Nat.le_of_ble_eq_true rfl) d_B_workOut_23 (fun H locs hP hD hS => ?_)
      refine lv_aload_n hx hb d_B_workOut_26 rfl (lv_at hl 0 rfl) ?_
      obtain ⟨v_6, e_6, h⟩ := bd_some h
      refine go_Vv (As := []) (rest := []) (wc := (wB a k lab sg cc ci od v_3.2 go v_5.1 we v_5.2.1 v_5.2.2 v_2 sp qr qs)) (wr := []) (w1 := (wB a k lab sg cc ci od v_3.2 go v_5.1 we v_5.2.1 v_5.2.2 v_6.1 v_6.2.1 v_6.2.2.1 v_6.2.2.2)) (w2 := (wB a k lab sg cc ci od v_3.2 go v_5.1 we v_5.2.1 v_5.2.2 v_6.1 v_6.2.1 v_6.2.2.1 v_6.2.2.2)) (tc := [(k 1, .int), (k 2, .int), (k 3, .int), (k 4, .int), (k 5, .boolean), (k 6, .int), (k 8, .int), (k 9, .int), (k 11, .long)]) hx hb hml hown ht (c_B_sumTally l D a k H.size lab sg cc ci od v_3.2 go v_5.1 we v_5.2.1 v_5.2.2 v_2 sp qr qs v_6 e_6) g_B_155 ⟨rfl, rfl⟩ (n := 0) (by decide +kernel) ⟨(Nat.le_of_ble_eq_true rfl), (Nat.le_of_ble_eq_true rfl)⟩ hP hD hK hS hA ⟨Nat.zero_le _, Nat.zero_le _⟩ [0, 1, 2, 3, 4, 5, 6, 7, 8, 9, 10, 11, 12] [] [0, 1, 2, 3, 4, 5, 6, 7, 8] [0, 1, 2, 3, 4, 5, 6, 7, 8, 9, 10, 11, 12] rfl rfl rfl rfl (by decide) (by decide) (by decide) rfl (by decide) 0 rfl rfl rfl rfl rfl hl.1 (Nat.le_of_ble_eq_true rfl) d_B_workOut_27 (fun H locs hP hD hS => ?_)
      refine lv_aload_n hx hb d_B_workOut_30 rfl (lv_at hl 0 rfl) ?_
      refine lv_iconst (v := 1) hx hb d_B_workOut_31 (by decide) ?_
      refine va_put (D := D) (ci := 0) (v := .int (1 : Int32)) (ty := .boolean) (C := R_B) (T := F_B) (N := 11) hx hb ht iC_B t_B t_B_ok n_B hown hK hP hD hS 0 rfl rfl 10 (by decide) (ht _ ix_39) (fun _ h9 => h9) rfl (by decide +kernel) rfl rfl (Nat.le_of_ble_eq_true rfl) d_B_workOut_32 (fun H locs hP hD hS => ?_)
      have hP : va_P D classes (wB a k lab sg cc ci od v_3.2 go v_5.1 (1 : Int32) v_5.2.1 v_5.2.2 v_6.1 v_6.2.1 v_6.2.2.1 v_6.2.2.2) H := hP
      have hD : va_D A (wB a k lab sg cc ci od v_3.2 go v_5.1 (1 : Int32) v_5.2.1 v_5.2.2 v_6.1 v_6.2.1 v_6.2.2.1 v_6.2.2.2) := hD
      cases h
      exact W.vret hx hb hr (fun t ht hW => ⟨⟨(), rfl, trivial, by rw [ht]; exact hP, va_K.moved hW.alike hK, hD⟩, hS.F ht⟩) hS.2.2 d_B_workOut_35 hlk
  · have h := ite_F c_1 h
    cases h
    exact W.vret hx hb hr (fun t ht hW => ⟨⟨(), rfl, trivial, by rw [ht]; exact hP, va_K.moved hW.alike hK, hD⟩, hS.F ht⟩) hS.2.2 d_B_workOut_7 hlk
set_option maxRecDepth 20000 in
theorem c_B_workOut (l : Launch) (D : va_G) (a : Nat → Nat) (k : Nat → ClassId) (sz : Nat) (lab : Nat → Int32) (sg : Nat → Int32) (cc : Int32) (ci : Int32) (od : Nat → Int32) (sd : Nat → Int32) (go : Nat → Int32) (ta : Nat → Int32) (we : Int32) (oe : Nat → Int32) (fp : Nat → Int32) (ro : Nat → Int64) (sp : Nat → Int64) (qr : Nat) (qs : Nat) (r : (Nat → Int32) × (Nat → Int32) × Int32 × (Nat → Int32) × (Nat → Int32) × (Nat → Int64) × (Nat → Int64) × Nat × Nat) (h : F_B_workOut lab cc ci od sd ta we oe fp ro sp qr qs = some r) : Met l y_B_workOut (Cond.code y_B_workOut b_B_workOut 1 none :: lw_g) (rm_B_workOut) (va_Pc [.ref (a 0)] (pcW D [(k 1, .int), (k 2, .int), (k 3, .int), (k 4, .int), (k 5, .boolean), (k 6, .int), (k 8, .int), (k 9, .int), (k 11, .long)] (wB a k lab sg cc ci od sd go ta we oe fp ro sp qr qs) sz)) (qc_B_workOut D (va_A (wB a k lab sg cc ci od sd go ta we oe fp ro sp qr qs) sz) a k lab sg cc ci od go r) 0 0 (va_A (wB a k lab sg cc ci od sd go ta we oe fp ro sp qr qs) sz) := by
  refine Met.ofW (cc := b_B_workOut) (maxL := 1) (ret := none) (by decide) rfl ?_
  intro p e s m args below meth c s₁ B hml hv
  obtain ⟨rfl, hsz, hP, hK, hD0⟩ := hv
  have hts := atoms_spec (ws := Cond.code y_B_workOut b_B_workOut 1 none :: lw_g) B.pre
  subst hsz
  have hD := hD0.self (sz := s.heap.size)
  have hl := lv_entry ([.ref (a 0)]) (n := 1) (Nat.le_of_ble_eq_true rfl)
  rw [lg_entry_eq]
  generalize (lg_sl ([.ref (a 0)]) ++ List.replicate (1 - (lg_sl ([.ref (a 0)])).length) Slot.unset).toArray = ls at hl ⊢
  exact k_B_workOut_0 ⟨B.exec, B.bytes, B.returns, hml, findClass_of_methodNamed B.named, fun w hw => hts w (List.mem_cons_of_mem _ hw), B.notSynchronized, fun q h => Or.inr h, hK⟩ _ _ _ _ _ _ _ _ _ _ _ _ _ _ h _ _ _ hP hD va_S.rf hl

def rm_B_crossing : Room := { frames := 1, cells := 0, slots := 0, locals := 21 }
def qc_B_crossing (D : va_G) (A : Nat → Prop) (a : Nat → Nat) (k : Nat → ClassId) (ci : Int32) (sd : Nat → Int32) (go : Nat → Int32) (ta : Nat → Int32) (oe : Nat → Int32) (fp : Nat → Int32) (ro : Nat → Int64) (sp : Nat → Int64) (qr : Nat) (qs : Nat) (r : Int32 × (Nat → Int32) × (Nat → Int32) × Int32 × (Nat → Int32) × Int32) : Array Value → State → Outcome → State → Prop := va_Qi (fun (r1 : Int32) (_ : Unit) => r1 = r.1) (poW D [(k 1, .int), (k 2, .int), (k 3, .int), (k 4, .int), (k 5, .boolean), (k 6, .int), (k 8, .int), (k 9, .int), (k 11, .long)] (wB a k r.2.1 r.2.2.1 r.2.2.2.1 ci r.2.2.2.2.1 sd go ta r.2.2.2.2.2 oe fp ro sp qr qs) A) A
def J_B_crossing_12 (x1 : Int32) (x2 : Int32) (x3 : Int32) (x4 : Int32) (x5 : Int32) (lab : Nat → Int32) (sg : Nat → Int32) (cc : Int32) (od : Nat → Int32) (we : Int32) : Option (Int32 × (Nat → Int32) × (Nat → Int32) × Int32 × (Nat → Int32) × Int32) :=
  (Option.bind (F_B_isLabel x2) (fun v_1 => (if v_1 = 0 then some ((-1 : Int32), lab, sg, cc, od, we) else (Option.bind (F_B_isLabel x3) (fun v_3 => (if v_3 = 0 then some ((-1 : Int32), lab, sg, cc, od, we) else (Option.bind (F_B_isLabel x4) (fun v_5 => (if v_5 = 0 then some ((-1 : Int32), lab, sg, cc, od, we) else (Option.bind (F_B_isLabel x5) (fun v_7 => (if v_7 = 0 then some ((-1 : Int32), lab, sg, cc, od, we) else (if cc < (10 : Int32) then (if inb ((4 : Int32) * cc) 40 then (if inb (((4 : Int32) * cc) + (1 : Int32)) 40 then (if inb (((4 : Int32) * cc) + (2 : Int32)) 40 then (if inb (((4 : Int32) * cc) + (3 : Int32)) 40 then (if inb cc 10 then (Option.bind (F_B_orderAsGiven od we) (fun v_15 => some ((cc + (1 : Int32)), (upd (upd (upd (upd lab ((4 : Int32) * cc).toNatClampNeg x2) (((4 : Int32) * cc) + (1 : Int32)).toNatClampNeg x3) (((4 : Int32) * cc) + (2 : Int32)).toNatClampNeg x4) (((4 : Int32) * cc) + (3 : Int32)).toNatClampNeg x5), (upd sg cc.toNatClampNeg x1), (cc + (1 : Int32)), v_15.1, v_15.2))) else none) else none) else none) else none) else none) else some ((-1 : Int32), lab, sg, cc, od, we))))))))))))))
def J_B_crossing_0 (x1 : Int32) (x2 : Int32) (x3 : Int32) (x4 : Int32) (x5 : Int32) (lab : Nat → Int32) (sg : Nat → Int32) (cc : Int32) (od : Nat → Int32) (we : Int32) : Option (Int32 × (Nat → Int32) × (Nat → Int32) × Int32 × (Nat → Int32) × Int32) :=
  (if x1 = (1 : Int32) then J_B_crossing_12 x1 x2 x3 x4 x5 lab sg cc od we else (if x1 = (-1 : Int32) then J_B_crossing_12 x1 x2 x3 x4 x5 lab sg cc od we else some ((-1 : Int32), lab, sg, cc, od, we)))
def F_B_crossing (x1 : Int32) (x2 : Int32) (x3 : Int32) (x4 : Int32) (x5 : Int32) (lab : Nat → Int32) (sg : Nat → Int32) (cc : Int32) (od : Nat → Int32) (we : Int32) : Option (Int32 × (Nat → Int32) × (Nat → Int32) × Int32 × (Nat → Int32) × Int32) := J_B_crossing_0 x1 x2 x3 x4 x5 lab sg cc od we
def H_B_crossing_12 (p : Program) (l : Launch) (e : Env) (s : State) (m : MethodId) (args : Array Value) (below : List Frame) (meth : Method) (c : Code) (D : va_G) (A : Nat → Prop) (a : Nat → Nat) (k : Nat → ClassId) (ci : Int32) (sd : Nat → Int32) (go : Nat → Int32) (ta : Nat → Int32) (oe : Nat → Int32) (fp : Nat → Int32) (ro : Nat → Int64) (sp : Nat → Int64) (qr : Nat) (qs : Nat) (f : Int32 → Int32 → Int32 → Int32 → Int32 → (Nat → Int32) → (Nat → Int32) → Int32 → (Nat → Int32) → Int32 → Option (Int32 × (Nat → Int32) × (Nat → Int32) × Int32 × (Nat → Int32) × Int32)) : Prop := ∀ (x1 : Int32) (x2 : Int32) (x3 : Int32) (x4 : Int32) (x5 : Int32) (lab : Nat → Int32) (sg : Nat → Int32) (cc : Int32) (od : Nat → Int32) (we : Int32) (r : Int32 × (Nat → Int32) × (Nat → Int32) × Int32 × (Nat → Int32) × Int32), f x1 x2 x3 x4 x5 lab sg cc od we = some r → ∀ (H : Heap) (locs : List Loc) (ls : Array Slot), va_P D classes (wB a k lab sg cc ci od sd go ta we oe fp ro sp qr qs) H → va_D A (wB a k lab sg cc ci od sd go ta we oe fp ro sp qr qs) → va_S A s.heap H locs → lv_has ls 7 [(0, .ref (a 0)), (1, .int x1), (2, .int x2), (3, .int x3), (4, .int x4), (5, .int x5)] → W p l e (rm_B_crossing) s m args below meth c H locs 0 0 (MQ below (qc_B_crossing D A a k ci sd go ta oe fp ro sp qr qs r) args s 0 0 A) (F0 m 12 ls [])
def H_B_crossing_0 (p : Program) (l : Launch) (e : Env) (s : State) (m : MethodId) (args : Array Value) (below : List Frame) (meth : Method) (c : Code) (D : va_G) (A : Nat → Prop) (a : Nat → Nat) (k : Nat → ClassId) (ci : Int32) (sd : Nat → Int32) (go : Nat → Int32) (ta : Nat → Int32) (oe : Nat → Int32) (fp : Nat → Int32) (ro : Nat → Int64) (sp : Nat → Int64) (qr : Nat) (qs : Nat) (f : Int32 → Int32 → Int32 → Int32 → Int32 → (Nat → Int32) → (Nat → Int32) → Int32 → (Nat → Int32) → Int32 → Option (Int32 × (Nat → Int32) × (Nat → Int32) × Int32 × (Nat → Int32) × Int32)) : Prop := ∀ (x1 : Int32) (x2 : Int32) (x3 : Int32) (x4 : Int32) (x5 : Int32) (lab : Nat → Int32) (sg : Nat → Int32) (cc : Int32) (od : Nat → Int32) (we : Int32) (r : Int32 × (Nat → Int32) × (Nat → Int32) × Int32 × (Nat → Int32) × Int32), f x1 x2 x3 x4 x5 lab sg cc od we = some r → ∀ (H : Heap) (locs : List Loc) (ls : Array Slot), va_P D classes (wB a k lab sg cc ci od sd go ta we oe fp ro sp qr qs) H → va_D A (wB a k lab sg cc ci od sd go ta we oe fp ro sp qr qs) → va_S A s.heap H locs → lv_has ls 7 [(0, .ref (a 0)), (1, .int x1), (2, .int x2), (3, .int x3), (4, .int x4), (5, .int x5)] → W p l e (rm_B_crossing) s m args below meth c H locs 0 0 (MQ below (qc_B_crossing D A a k ci sd go ta oe fp ro sp qr qs r) args s 0 0 A) (F0 m 0 ls [])
set_option maxHeartbeats 4000000 in
set_option maxRecDepth 100000 in
theorem k_B_crossing_12 {p : Program} {l : Launch} {e : Env} {s : State} {m : MethodId} {args : Array Value} {below : List Frame} {meth : Method} {c : Code} {D : va_G} {A : Nat → Prop} {a : Nat → Nat} {k : Nat → ClassId} {ci : Int32} {sd : Nat → Int32} {go : Nat → Int32} {ta : Nat → Int32} {oe : Nat → Int32} {fp : Nat → Int32} {ro : Nat → Int64} {sp : Nat → Int64} {qr : Nat} {qs : Nat} (C : cx D [(k 1, .int), (k 2, .int), (k 3, .int), (k 4, .int), (k 5, .boolean), (k 6, .int), (k 8, .int), (k 9, .int), (k 11, .long)] R_B b_B_crossing 7 (some .int) A p s m args meth c) : H_B_crossing_12 p l e s m args below meth c D A a k ci sd go ta oe fp ro sp qr qs (J_B_crossing_12) := by
  obtain ⟨hx, hb, hr, hml, hown, ht, hlk, hA, hK⟩ := id C
  intro x1 x2 x3 x4 x5 lab sg cc od we r h H locs ls hP hD hS hl
  unfold J_B_crossing_12 at h
  refine lv_iload_n hx hb d_B_crossing_12 rfl (lv_at hl 2 rfl) ?_
  obtain ⟨v_1, e_1, h⟩ := bd_some h
  refine go_Si (r := v_1) (As := [.int x2]) (rest := []) (wc := (wN a k )) (wr := [((a 0), .inr (0, [.ref (a 1), .ref (a 2), .int cc, .int ci, .ref (a 3), .ref (a 4), .ref (a 5), .ref (a 6), .ref (a 7), .ref (a 10), .int we])), ((a 1), .inl (k 1, 40, .inl lab)), ((a 2), .inl (k 2, 10, .inl sg)), ((a 3), .inl (k 3, 10, .inl od)), ((a 4), .inl (k 4, 100, .inl sd)), ((a 5), .inl (k 5, 10, .inl go)), ((a 6), .inl (k 6, 330, .inl ta)), ((a 7), .inr (1, [.ref (a 8), .ref (a 9)])), ((a 8), .inl (k 8, 40, .inl oe)), ((a 9), .inl (k 9, 100, .inl fp)), ((a 10), .inr (2, [.ref qr, .ref qs])), (qr, .inl (k 11, 133, .inr (.inl ro))), (qs, .inl (k 11, 133, .inr (.inl sp)))]) (w1 := (wN a k )) (w2 := (wB a k lab sg cc ci od sd go ta we oe fp ro sp qr qs)) (tc := []) hx hb hml hown ht (c_B_isLabel l D a k H.size x2 v_1 e_1) g_B_57 ⟨rfl, rfl⟩ (n := 1) (by decide +kernel) ⟨(Nat.le_of_ble_eq_true rfl), (Nat.le_of_ble_eq_true rfl)⟩ hP hD hK hS hA ⟨Nat.zero_le _, Nat.zero_le _⟩ [] [0, 1, 2, 3, 4, 5, 6, 7, 8, 9, 10, 11, 12] [] [0, 1, 2, 3, 4, 5, 6, 7, 8, 9, 10, 11, 12] rfl rfl rfl rfl (by decide) (by decide) (by decide) rfl (by decide) rfl rfl hl.1 (Nat.le_of_ble_eq_true rfl) d_B_crossing_13 (fun H locs hP hD hS => ?_)
  refine lv_if_eq (tgt := 42) hx hb d_B_crossing_16 (by decide) (fun c_2 => ?_) (fun c_2 => ?_)
  · have h := ite_T c_2 h
    refine lv_iconst (v := (-1)) hx hb d_B_crossing_42 (by decide) ?_
    cases h
    exact W.iret hx hb hr (fun t ht hW => ⟨⟨_, (), rfl, rfl, by rw [ht]; exact hP, va_K.moved hW.alike hK, hD⟩, hS.F ht⟩) hS.2.2 d_B_crossing_43 hlk
  · have h := ite_F c_2 h
    refine lv_iload_n hx hb d_B_crossing_19 rfl (lv_at hl 3 rfl) ?_
    obtain ⟨v_3, e_3, h⟩ := bd_some h
    refine go_Si (r := v_3) (As := [.int x3]) (rest := []) (wc := (wN a k )) (wr := [((a 0), .inr (0, [.ref (a 1), .ref (a 2), .int cc, .int ci, .ref (a 3), .ref (a 4), .ref (a 5), .ref (a 6), .ref (a 7), .ref (a 10), .int we])), ((a 1), .inl (k 1, 40, .inl lab)), ((a 2), .inl (k 2, 10, .inl sg)), ((a 3), .inl (k 3, 10, .inl od)), ((a 4), .inl (k 4, 100, .inl sd)), ((a 5), .inl (k 5, 10, .inl go)), ((a 6), .inl (k 6, 330, .inl ta)), ((a 7), .inr (1, [.ref (a 8), .ref (a 9)])), ((a 8), .inl (k 8, 40, .inl oe)), ((a 9), .inl (k 9, 100, .inl fp)), ((a 10), .inr (2, [.ref qr, .ref qs])), (qr, .inl (k 11, 133, .inr (.inl ro))), (qs, .inl (k 11, 133, .inr (.inl sp)))]) (w1 := (wN a k )) (w2 := (wB a k lab sg cc ci od sd go ta we oe fp ro sp qr qs)) (tc := []) hx hb hml hown ht (c_B_isLabel l D a k H.size x3 v_3 e_3) g_B_57 ⟨rfl, rfl⟩ (n := 1) (by decide +kernel) ⟨(Nat.le_of_ble_eq_true rfl), (Nat.le_of_ble_eq_true rfl)⟩ hP hD hK hS hA ⟨Nat.zero_le _, Nat.zero_le _⟩ [] [0, 1, 2, 3, 4, 5, 6, 7, 8, 9, 10, 11, 12] [] [0, 1, 2, 3, 4, 5, 6, 7, 8, 9, 10, 11, 12] rfl rfl rfl rfl (by decide) (by decide) (by decide) rfl (by decide) rfl rfl hl.1 (Nat.le_of_ble_eq_true rfl) d_B_crossing_20 (fun H locs hP hD hS => ?_)
    refine lv_if_eq (tgt := 42) hx hb d_B_crossing_23 (by decide) (fun c_4 => ?_) (fun c_4 => ?_)
    · have h := ite_T c_4 h
      refine lv_iconst (v := (-1)) hx hb d_B_crossing_42 (by decide) ?_
      cases h
      exact W.iret hx hb hr (fun t ht hW => ⟨⟨_, (), rfl, rfl, by rw [ht]; exact hP, va_K.moved hW.alike hK, hD⟩, hS.F ht⟩) hS.2.2 d_B_crossing_43 hlk
    · have h := ite_F c_4 h
      refine lv_iload hx hb d_B_crossing_26 (lv_at hl 4 rfl) ?_
      obtain ⟨v_5, e_5, h⟩ := bd_some h
      refine go_Si (r := v_5) (As := [.int x4]) (rest := []) (wc := (wN a k )) (wr := [((a 0), .inr (0, [.ref (a 1), .ref (a 2), .int cc, .int ci, .ref (a 3), .ref (a 4), .ref (a 5), .ref (a 6), .ref (a 7), .ref (a 10), .int we])), ((a 1), .inl (k 1, 40, .inl lab)), ((a 2), .inl (k 2, 10, .inl sg)), ((a 3), .inl (k 3, 10, .inl od)), ((a 4), .inl (k 4, 100, .inl sd)), ((a 5), .inl (k 5, 10, .inl go)), ((a 6), .inl (k 6, 330, .inl ta)), ((a 7), .inr (1, [.ref (a 8), .ref (a 9)])), ((a 8), .inl (k 8, 40, .inl oe)), ((a 9), .inl (k 9, 100, .inl fp)), ((a 10), .inr (2, [.ref qr, .ref qs])), (qr, .inl (k 11, 133, .inr (.inl ro))), (qs, .inl (k 11, 133, .inr (.inl sp)))]) (w1 := (wN a k )) (w2 := (wB a k lab sg cc ci od sd go ta we oe fp ro sp qr qs)) (tc := []) hx hb hml hown ht (c_B_isLabel l D a k H.size x4 v_5 e_5) g_B_57 ⟨rfl, rfl⟩ (n := 1) (by decide +kernel) ⟨(Nat.le_of_ble_eq_true rfl), (Nat.le_of_ble_eq_true rfl)⟩ hP hD hK hS hA ⟨Nat.zero_le _, Nat.zero_le _⟩ [] [0, 1, 2, 3, 4, 5, 6, 7, 8, 9, 10, 11, 12] [] [0, 1, 2, 3, 4, 5, 6, 7, 8, 9, 10, 11, 12] rfl rfl rfl rfl (by decide) (by decide) (by decide) rfl (by decide) rfl rfl hl.1 (Nat.le_of_ble_eq_true rfl) d_B_crossing_28 (fun H locs hP hD hS => ?_)
      refine lv_if_eq (tgt := 42) hx hb d_B_crossing_31 (by decide) (fun c_6 => ?_) (fun c_6 => ?_)
      · have h := ite_T c_6 h
        refine lv_iconst (v := (-1)) hx hb d_B_crossing_42 (by decide) ?_
        cases h
        exact W.iret hx hb hr (fun t ht hW => ⟨⟨_, (), rfl, rfl, by rw [ht]; exact hP, va_K.moved hW.alike hK, hD⟩, hS.F ht⟩) hS.2.2 d_B_crossing_43 hlk
      · have h := ite_F c_6 h
        refine lv_iload hx hb d_B_crossing_34 (lv_at hl 5 rfl) ?_
        obtain ⟨v_7, e_7, h⟩ := bd_some h
        refine go_Si (r := v_7) (As := [.int x5]) (rest := []) (wc := (wN a k )) (wr := [((a 0), .inr (0, [.ref (a 1), .ref (a 2), .int cc, .int ci, .ref (a 3), .ref (a 4), .ref (a 5), .ref (a 6), .ref (a 7), .ref (a 10), .int we])), ((a 1), .inl (k 1, 40, .inl lab)), ((a 2), .inl (k 2, 10, .inl sg)), ((a 3), .inl (k 3, 10, .inl od)), ((a 4), .inl (k 4, 100, .inl sd)), ((a 5), .inl (k 5, 10, .inl go)), ((a 6), .inl (k 6, 330, .inl ta)), ((a 7), .inr (1, [.ref (a 8), .ref (a 9)])), ((a 8), .inl (k 8, 40, .inl oe)), ((a 9), .inl (k 9, 100, .inl fp)), ((a 10), .inr (2, [.ref qr, .ref qs])), (qr, .inl (k 11, 133, .inr (.inl ro))), (qs, .inl (k 11, 133, .inr (.inl sp)))]) (w1 := (wN a k )) (w2 := (wB a k lab sg cc ci od sd go ta we oe fp ro sp qr qs)) (tc := []) hx hb hml hown ht (c_B_isLabel l D a k H.size x5 v_7 e_7) g_B_57 ⟨rfl, rfl⟩ (n := 1) (by decide +kernel) ⟨(Nat.le_of_ble_eq_true rfl), (Nat.le_of_ble_eq_true rfl)⟩ hP hD hK hS hA ⟨Nat.zero_le _, Nat.zero_le _⟩ [] [0, 1, 2, 3, 4, 5, 6, 7, 8, 9, 10, 11, 12] [] [0, 1, 2, 3, 4, 5, 6, 7, 8, 9, 10, 11, 12] rfl rfl rfl rfl (by decide) (by decide) (by decide) rfl (by decide) rfl rfl hl.1 (Nat.le_of_ble_eq_true rfl) d_B_crossing_36 (fun H locs hP hD hS => ?_)
        refine lv_if_ne (tgt := 44) hx hb d_B_crossing_39 (by decide) (fun c_8 => ?_) (fun c_8 => ?_)
        · have h := ite_F c_8 h
          refine lv_aload_n hx hb d_B_crossing_44 rfl (lv_at hl 0 rfl) ?_
          refine va_get (D := D) (ci := 0) (v := .int cc) (C := R_B) (T := F_B) (N := 11) hx hb ht iC_B hown hK hP 0 rfl rfl 2 (by decide) (ht _ ix_38) (fun _ h9 => h9) rfl d_B_crossing_45 ?_
          refine lv_bipush (v := 10) hx hb d_B_crossing_48 (by decide) ?_
          refine lv_icmp_lt (tgt := 55) hx hb d_B_crossing_50 (by decide) (fun c_9 => ?_) (fun c_9 => ?_)
          · have h := ite_T c_9 h
            refine lv_iconst (v := 4) hx hb d_B_crossing_55 (by decide) ?_
            refine lv_aload_n hx hb d_B_crossing_56 rfl (lv_at hl 0 rfl) ?_
            refine va_get (D := D) (ci := 0) (v := .int cc) (C := R_B) (T := F_B) (N := 11) hx hb ht iC_B hown hK hP 0 rfl rfl 2 (by decide) (ht _ ix_38) (fun _ h9 => h9) rfl d_B_crossing_57 ?_
            refine lv_imul hx hb d_B_crossing_60 ?_
            refine lv_istore (lv' := [(6, .int ((4 : Int32) * cc)), (0, .ref (a 0)), (1, .int x1), (2, .int x2), (3, .int x3), (4, .int x4), (5, .int x5)]) hx hb d_B_crossing_61 hl (by decide) rfl (fun ls hl => ?_)
            refine lv_aload_n hx hb d_B_crossing_63 rfl (lv_at hl 1 rfl) ?_
            refine va_get (D := D) (ci := 0) (v := .ref (a 1)) (C := R_B) (T := F_B) (N := 11) hx hb ht iC_B hown hK hP 0 rfl rfl 0 (by decide) (ht _ ix_43) (fun _ h9 => h9) rfl d_B_crossing_64 ?_
            refine lv_iload hx hb d_B_crossing_67 (lv_at hl 0 rfl) ?_
            refine lv_iload_n hx hb d_B_crossing_69 rfl (lv_at hl 3 rfl) ?_
            obtain ⟨g_10, h⟩ := gd_some h
            refine va_iast hx hb hK hP hD hS 1 0 rfl rfl (inb_in g_10) d_B_crossing_70 (fun H locs hP hD hS => ?_)
            have hP : va_P D classes (wB a k (upd lab ((4 : Int32) * cc).toNatClampNeg x2) sg cc ci od sd go ta we oe fp ro sp qr qs) H := hP
            have hD : va_D A (wB a k (upd lab ((4 : Int32) * cc).toNatClampNeg x2) sg cc ci od sd go ta we oe fp ro sp qr qs) := hD
            refine lv_aload_n hx hb d_B_crossing_71 rfl (lv_at hl 1 rfl) ?_
            refine va_get (D := D) (ci := 0) (v := .ref (a 1)) (C := R_B) (T := F_B) (N := 11) hx hb ht iC_B hown hK hP 0 rfl rfl 0 (by decide) (ht _ ix_43) (fun _ h9 => h9) rfl d_B_crossing_72 ?_
            refine lv_iload hx hb d_B_crossing_75 (lv_at hl 0 rfl) ?_
            refine lv_iconst (v := 1) hx hb d_B_crossing_77 (by decide) ?_
            refine lv_iadd hx hb d_B_crossing_78 ?_
            refine lv_iload_n hx hb d_B_crossing_79 rfl (lv_at hl 4 rfl) ?_
            obtain ⟨g_11, h⟩ := gd_some h
            refine va_iast hx hb hK hP hD hS 1 0 rfl rfl (inb_in g_11) d_B_crossing_80 (fun H locs hP hD hS => ?_)
            have hP : va_P D classes (wB a k (upd (upd lab ((4 : Int32) * cc).toNatClampNeg x2) (((4 : Int32) * cc) + (1 : Int32)).toNatClampNeg x3) sg cc ci od sd go ta we oe fp ro sp qr qs) H := hP
            have hD : va_D A (wB a k (upd (upd lab ((4 : Int32) * cc).toNatClampNeg x2) (((4 : Int32) * cc) + (1 : Int32)).toNatClampNeg x3) sg cc ci od sd go ta we oe fp ro sp qr qs) := hD
            refine lv_aload_n hx hb d_B_crossing_81 rfl (lv_at hl 1 rfl) ?_
            refine va_get (D := D) (ci := 0) (v := .ref (a 1)) (C := R_B) (T := F_B) (N := 11) hx hb ht iC_B hown hK hP 0 rfl rfl 0 (by decide) (ht _ ix_43) (fun _ h9 => h9) rfl d_B_crossing_82 ?_
            refine lv_iload hx hb d_B_crossing_85 (lv_at hl 0 rfl) ?_
            refine lv_iconst (v := 2) hx hb d_B_crossing_87 (by decide) ?_
            refine lv_iadd hx hb d_B_crossing_88 ?_
            refine lv_iload hx hb d_B_crossing_89 (lv_at hl 5 rfl) ?_
            obtain ⟨g_12, h⟩ := gd_some h
            refine va_iast hx hb hK hP hD hS 1 0 rfl rfl (inb_in g_12) d_B_crossing_91 (fun H locs hP hD hS => ?_)
            have hP : va_P D classes (wB a k (upd (upd (upd lab ((4 : Int32) * cc).toNatClampNeg x2) (((4 : Int32) * cc) + (1 : Int32)).toNatClampNeg x3) (((4 : Int32) * cc) + (2 : Int32)).toNatClampNeg x4) sg cc ci od sd go ta we oe fp ro sp qr qs) H := hP
            have hD : va_D A (wB a k (upd (upd (upd lab ((4 : Int32) * cc).toNatClampNeg x2) (((4 : Int32) * cc) + (1 : Int32)).toNatClampNeg x3) (((4 : Int32) * cc) + (2 : Int32)).toNatClampNeg x4) sg cc ci od sd go ta we oe fp ro sp qr qs) := hD
            refine lv_aload_n hx hb d_B_crossing_92 rfl (lv_at hl 1 rfl) ?_
            refine va_get (D := D) (ci := 0) (v := .ref (a 1)) (C := R_B) (T := F_B) (N := 11) hx hb ht iC_B hown hK hP 0 rfl rfl 0 (by decide) (ht _ ix_43) (fun _ h9 => h9) rfl d_B_crossing_93 ?_
            refine lv_iload hx hb d_B_crossing_96 (lv_at hl 0 rfl) ?_
            refine lv_iconst (v := 3) hx hb d_B_crossing_98 (by decide) ?_
            refine lv_iadd hx hb d_B_crossing_99 ?_
            refine lv_iload hx hb d_B_crossing_100 (lv_at hl 6 rfl) ?_
            obtain ⟨g_13, h⟩ := gd_some h
            refine va_iast hx hb hK hP hD hS 1 0 rfl rfl (inb_in g_13) d_B_crossing_102 (fun H locs hP hD hS => ?_)
            have hP : va_P D classes (wB a k (upd (upd (upd (upd lab ((4 : Int32) * cc).toNatClampNeg x2) (((4 : Int32) * cc) + (1 : Int32)).toNatClampNeg x3) (((4 : Int32) * cc) + (2 : Int32)).toNatClampNeg x4) (((4 : Int32) * cc) + (3 : Int32)).toNatClampNeg x5) sg cc ci od sd go ta we oe fp ro sp qr qs) H := hP
            have hD : va_D A (wB a k (upd (upd (upd (upd lab ((4 : Int32) * cc).toNatClampNeg x2) (((4 : Int32) * cc) + (1 : Int32)).toNatClampNeg x3) (((4 : Int32) * cc) + (2 : Int32)).toNatClampNeg x4) (((4 : Int32) * cc) + (3 : Int32)).toNatClampNeg x5) sg cc ci od sd go ta we oe fp ro sp qr qs) := hD
            refine lv_aload_n hx hb d_B_crossing_103 rfl (lv_at hl 1 rfl) ?_
            refine va_get (D := D) (ci := 0) (v := .ref (a 2)) (C := R_B) (T := F_B) (N := 11) hx hb ht iC_B hown hK hP 0 rfl rfl 1 (by decide) (ht _ ix_53) (fun _ h9 => h9) rfl d_B_crossing_104 ?_
            refine lv_aload_n hx hb d_B_crossing_107 rfl (lv_at hl 1 rfl) ?_
            refine va_get (D := D) (ci := 0) (v := .int cc) (C := R_B) (T := F_B) (N := 11) hx hb ht iC_B hown hK hP 0 rfl rfl 2 (by decide) (ht _ ix_38) (fun _ h9 => h9) rfl d_B_crossing_108 ?_
            refine lv_iload_n hx hb d_B_crossing_111 rfl (lv_at hl 2 rfl) ?_
            obtain ⟨g_14, h⟩ := gd_some h
            refine va_iast hx hb hK hP hD hS 2 1 rfl rfl (inb_in g_14) d_B_crossing_112 (fun H locs hP hD hS => ?_)
            have hP : va_P D classes (wB a k (upd (upd (upd (upd lab ((4 : Int32) * cc).toNatClampNeg x2) (((4 : Int32) * cc) + (1 : Int32)).toNatClampNeg x3) (((4 : Int32) * cc) + (2 : Int32)).toNatClampNeg x4) (((4 : Int32) * cc) + (3 : Int32)).toNatClampNeg x5) (upd sg cc.toNatClampNeg x1) cc ci od sd go ta we oe fp ro sp qr qs) H := hP
            have hD : va_D A (wB a k (upd (upd (upd (upd lab ((4 : Int32) * cc).toNatClampNeg x2) (((4 : Int32) * cc) + (1 : Int32)).toNatClampNeg x3) (((4 : Int32) * cc) + (2 : Int32)).toNatClampNeg x4) (((4 : Int32) * cc) + (3 : Int32)).toNatClampNeg x5) (upd sg cc.toNatClampNeg x1) cc ci od sd go ta we oe fp ro sp qr qs) := hD
            refine lv_aload_n hx hb d_B_crossing_113 rfl (lv_at hl 1 rfl) ?_
            refine lv_dup hx hb d_B_crossing_114 rfl ?_
            refine va_get (D := D) (ci := 0) (v := .int cc) (C := R_B) (T := F_B) (N := 11) hx hb ht iC_B hown hK hP 0 rfl rfl 2 (by decide) (ht _ ix_38) (fun _ h9 => h9) rfl d_B_crossing_115 ?_
            refine lv_iconst (v := 1) hx hb d_B_crossing_118 (by decide) ?_
            refine lv_iadd hx hb d_B_crossing_119 ?_
            refine va_put (D := D) (ci := 0) (v := .int (cc + (1 : Int32))) (ty := .int) (C := R_B) (T := F_B) (N := 11) hx hb ht iC_B t_B t_B_ok n_B hown hK hP hD hS 0 rfl rfl 2 (by decide) (ht _ ix_38) (fun _ h9 => h9) rfl (by decide +kernel) rfl rfl (Nat.le_of_ble_eq_true rfl) d_B_crossing_120 (fun H locs hP hD hS => ?_)
            have hP : va_P D classes (wB a k (upd (upd (upd (upd lab ((4 : Int32) * cc).toNatClampNeg x2) (((4 : Int32) * cc) + (1 : Int32)).toNatClampNeg x3) (((4 : Int32) * cc) + (2 : Int32)).toNatClampNeg x4) (((4 : Int32) * cc) + (3 : Int32)).toNatClampNeg x5) (upd sg cc.toNatClampNeg x1) (cc + (1 : Int32)) ci od sd go ta we oe fp ro sp qr qs) H := hP
            have hD : va_D A (wB a k (upd (upd (upd (upd lab ((4 : Int32) * cc).toNatClampNeg x2) (((4 : Int32) * cc) + (1 : Int32)).toNatClampNeg x3) (((4 : Int32) * cc) + (2 : Int32)).toNatClampNeg x4) (((4 : Int32) * cc) + (3 : Int32)).toNatClampNeg x5) (upd sg cc.toNatClampNeg x1) (cc + (1 : Int32)) ci od sd go ta we oe fp ro sp qr qs) := hD
            refine lv_aload_n hx hb d_B_crossing_123 rfl (lv_at hl 1 rfl) ?_
            obtain ⟨v_15, e_15, h⟩ := bd_some h
            refine go_Vv (As := []) (rest := []) (wc := (wB a k (upd (upd (upd (upd lab ((4 : Int32) * cc).toNatClampNeg x2) (((4 : Int32) * cc) + (1 : Int32)).toNatClampNeg x3) (((4 : Int32) * cc) + (2 : Int32)).toNatClampNeg x4) (((4 : Int32) * cc) + (3 : Int32)).toNatClampNeg x5) (upd sg cc.toNatClampNeg x1) (cc + (1 : Int32)) ci od sd go ta we oe fp ro sp qr qs)) (wr := []) (w1 := (wB a k (upd (upd (upd (upd lab ((4 : Int32) * cc).toNatClampNeg x2) (((4 : Int32) * cc) + (1 : Int32)).toNatClampNeg x3) (((4 : Int32) * cc) + (2 : Int32)).toNatClampNeg x4) (((4 : Int32) * cc) + (3 : Int32)).toNatClampNeg x5) (upd sg cc.toNatClampNeg x1) (cc + (1 : Int32)) ci v_15.1 sd go ta v_15.2 oe fp ro sp qr qs)) (w2 := (wB a k (upd (upd (upd (upd lab ((4 : Int32) * cc).toNatClampNeg x2) (((4 : Int32) * cc) + (1 : Int32)).toNatClampNeg x3) (((4 : Int32) * cc) + (2 : Int32)).toNatClampNeg x4) (((4 : Int32) * cc) + (3 : Int32)).toNatClampNeg x5) (upd sg cc.toNatClampNeg x1) (cc + (1 : Int32)) ci v_15.1 sd go ta v_15.2 oe fp ro sp qr qs)) (tc := [(k 1, .int), (k 2, .int), (k 3, .int), (k 4, .int), (k 5, .boolean), (k 6, .int), (k 8, .int), (k 9, .int), (k 11, .long)]) hx hb hml hown ht (c_B_orderAsGiven l D a k H.size (upd (upd (upd (upd lab ((4 : Int32) * cc).toNatClampNeg x2) (((4 : Int32) * cc) + (1 : Int32)).toNatClampNeg x3) (((4 : Int32) * cc) + (2 : Int32)).toNatClampNeg x4) (((4 : Int32) * cc) + (3 : Int32)).toNatClampNeg x5) (upd sg cc.toNatClampNeg x1) (cc + (1 : Int32)) ci od sd go ta we oe fp ro sp qr qs v_15 e_15) g_B_54 ⟨rfl, rfl⟩ (n := 0) (by decide +kernel) ⟨(Nat.le_of_ble_eq_true rfl), (Nat.le_of_ble_eq_true rfl)⟩ hP hD hK hS hA ⟨Nat.zero_le _, Nat.zero_le _⟩ [0, 1, 2, 3, 4, 5, 6, 7, 8, 9, 10, 11, 12] [] [0, 1, 2, 3, 4, 5, 6, 7, 8] [0, 1, 2, 3, 4, 5, 6, 7, 8, 9, 10, 11, 12] rfl rfl rfl rfl (by decide) (by decide) (by decide) rfl (by decide) 0 rfl rfl rfl rfl rfl hl.1 (Nat.le_of_ble_eq_true rfl) d_B_crossing_124 (fun H locs hP hD hS => ?_)
            refine lv_aload_n hx hb d_B_crossing_127 rfl (lv_at hl 1 rfl) ?_
            refine va_get (D := D) (ci := 0) (v := .int (cc + (1 : Int32))) (C := R_B) (T := F_B) (N := 11) hx hb ht iC_B hown hK hP 0 rfl rfl 2 (by decide) (ht _ ix_38) (fun _ h9 => h9) rfl d_B_crossing_128 ?_
            cases h
            exact W.iret hx hb hr (fun t ht hW => ⟨⟨_, (), rfl, rfl, by rw [ht]; exact hP, va_K.moved hW.alike hK, hD⟩, hS.F ht⟩) hS.2.2 d_B_crossing_131 hlk
          · have h := ite_F c_9 h
            refine lv_iconst (v := (-1)) hx hb d_B_crossing_53 (by decide) ?_
            cases h
            exact W.iret hx hb hr (fun t ht hW => ⟨⟨_, (), rfl, rfl, by rw [ht]; exact hP, va_K.moved hW.alike hK, hD⟩, hS.F ht⟩) hS.2.2 d_B_crossing_54 hlk
        · have h := ite_T c_8 h
          refine lv_iconst (v := (-1)) hx hb d_B_crossing_42 (by decide) ?_
          cases h
          exact W.iret hx hb hr (fun t ht hW => ⟨⟨_, (), rfl, rfl, by rw [ht]; exact hP, va_K.moved hW.alike hK, hD⟩, hS.F ht⟩) hS.2.2 d_B_crossing_43 hlk
set_option maxHeartbeats 4000000 in
set_option maxRecDepth 100000 in
theorem k_B_crossing_0 {p : Program} {l : Launch} {e : Env} {s : State} {m : MethodId} {args : Array Value} {below : List Frame} {meth : Method} {c : Code} {D : va_G} {A : Nat → Prop} {a : Nat → Nat} {k : Nat → ClassId} {ci : Int32} {sd : Nat → Int32} {go : Nat → Int32} {ta : Nat → Int32} {oe : Nat → Int32} {fp : Nat → Int32} {ro : Nat → Int64} {sp : Nat → Int64} {qr : Nat} {qs : Nat} (C : cx D [(k 1, .int), (k 2, .int), (k 3, .int), (k 4, .int), (k 5, .boolean), (k 6, .int), (k 8, .int), (k 9, .int), (k 11, .long)] R_B b_B_crossing 7 (some .int) A p s m args meth c) : H_B_crossing_0 p l e s m args below meth c D A a k ci sd go ta oe fp ro sp qr qs (J_B_crossing_0) := by
  obtain ⟨hx, hb, hr, hml, hown, ht, hlk, hA, hK⟩ := id C
  intro x1 x2 x3 x4 x5 lab sg cc od we r h H locs ls hP hD hS hl
  unfold J_B_crossing_0 at h
  refine lv_iload_n hx hb d_B_crossing_0 rfl (lv_at hl 1 rfl) ?_
  refine lv_iconst (v := 1) hx hb d_B_crossing_1 (by decide) ?_
  refine lv_icmp_eq (tgt := 12) hx hb d_B_crossing_2 (by decide) (fun c_1 => ?_) (fun c_1 => ?_)
  · have h := ite_T c_1 h
    exact (k_B_crossing_12 C) _ _ _ _ _ _ _ _ _ _ _ h _ _ _ hP hD hS (lv_sub hl [0, 1, 2, 3, 4, 5] rfl)
  · have h := ite_F c_1 h
    refine lv_iload_n hx hb d_B_crossing_5 rfl (lv_at hl 1 rfl) ?_
    refine lv_iconst (v := (-1)) hx hb d_B_crossing_6 (by decide) ?_
    refine lv_icmp_eq (tgt := 12) hx hb d_B_crossing_7 (by decide) (fun c_2 => ?_) (fun c_2 => ?_)
    · have h := ite_T c_2 h
      exact (k_B_crossing_12 C) _ _ _ _ _ _ _ _ _ _ _ h _ _ _ hP hD hS (lv_sub hl [0, 1, 2, 3, 4, 5] rfl)
    · have h := ite_F c_2 h
      refine lv_iconst (v := (-1)) hx hb d_B_crossing_10 (by decide) ?_
      cases h
      exact W.iret hx hb hr (fun t ht hW => ⟨⟨_, (), rfl, rfl, by rw [ht]; exact hP, va_K.moved hW.alike hK, hD⟩, hS.F ht⟩) hS.2.2 d_B_crossing_11 hlk
set_option maxRecDepth 20000 in
theorem c_B_crossing (l : Launch) (D : va_G) (a : Nat → Nat) (k : Nat → ClassId) (sz : Nat) (x1 : Int32) (x2 : Int32) (x3 : Int32) (x4 : Int32) (x5 : Int32) (lab : Nat → Int32) (sg : Nat → Int32) (cc : Int32) (ci : Int32) (od : Nat → Int32) (sd : Nat → Int32) (go : Nat → Int32) (ta : Nat → Int32) (we : Int32) (oe : Nat → Int32) (fp : Nat → Int32) (ro : Nat → Int64) (sp : Nat → Int64) (qr : Nat) (qs : Nat) (r : Int32 × (Nat → Int32) × (Nat → Int32) × Int32 × (Nat → Int32) × Int32) (h : F_B_crossing x1 x2 x3 x4 x5 lab sg cc od we = some r) : Met l y_B_crossing (Cond.code y_B_crossing b_B_crossing 7 (some .int) :: lw_g) (rm_B_crossing) (va_Pc [.ref (a 0), .int x1, .int x2, .int x3, .int x4, .int x5] (pcW D [(k 1, .int), (k 2, .int), (k 3, .int), (k 4, .int), (k 5, .boolean), (k 6, .int), (k 8, .int), (k 9, .int), (k 11, .long)] (wB a k lab sg cc ci od sd go ta we oe fp ro sp qr qs) sz)) (qc_B_crossing D (va_A (wB a k lab sg cc ci od sd go ta we oe fp ro sp qr qs) sz) a k ci sd go ta oe fp ro sp qr qs r) 0 0 (va_A (wB a k lab sg cc ci od sd go ta we oe fp ro sp qr qs) sz) := by
  refine Met.ofW (cc := b_B_crossing) (maxL := 7) (ret := (some .int)) (by decide) rfl ?_
  intro p e s m args below meth c s₁ B hml hv
  obtain ⟨rfl, hsz, hP, hK, hD0⟩ := hv
  have hts := atoms_spec (ws := Cond.code y_B_crossing b_B_crossing 7 (some .int) :: lw_g) B.pre
  subst hsz
  have hD := hD0.self (sz := s.heap.size)
  have hl := lv_entry ([.ref (a 0), .int x1, .int x2, .int x3, .int x4, .int x5]) (n := 7) (Nat.le_of_ble_eq_true rfl)
  rw [lg_entry_eq]
  generalize (lg_sl ([.ref (a 0), .int x1, .int x2, .int x3, .int x4, .int x5]) ++ List.replicate (7 - (lg_sl ([.ref (a 0), .int x1, .int x2, .int x3, .int x4, .int x5])).length) Slot.unset).toArray = ls at hl ⊢
  exact k_B_crossing_0 ⟨B.exec, B.bytes, B.returns, hml, findClass_of_methodNamed B.named, fun w hw => hts w (List.mem_cons_of_mem _ hw), B.notSynchronized, fun q h => Or.inr h, hK⟩ _ _ _ _ _ _ _ _ _ _ _ h _ _ _ hP hD va_S.rf hl

def rm_B_circles : Room := { frames := 0, cells := 0, slots := 0, locals := 0 }
def qc_B_circles (D : va_G) (A : Nat → Prop) (a : Nat → Nat) (k : Nat → ClassId) (lab : Nat → Int32) (sg : Nat → Int32) (cc : Int32) (od : Nat → Int32) (sd : Nat → Int32) (go : Nat → Int32) (ta : Nat → Int32) (oe : Nat → Int32) (fp : Nat → Int32) (ro : Nat → Int64) (sp : Nat → Int64) (qr : Nat) (qs : Nat) (r : Int32 × Int32 × Int32) : Array Value → State → Outcome → State → Prop := va_Qi (fun (r1 : Int32) (_ : Unit) => r1 = r.1) (poW D [(k 1, .int), (k 2, .int), (k 3, .int), (k 4, .int), (k 5, .boolean), (k 6, .int), (k 8, .int), (k 9, .int), (k 11, .long)] (wB a k lab sg cc r.2.1 od sd go ta r.2.2 oe fp ro sp qr qs) A) A
def J_B_circles_0 (x1 : Int32) (ci : Int32) (we : Int32) : Option (Int32 × Int32 × Int32) :=
  (if x1 < 0 then some ((-1 : Int32), ci, we) else (if x1 ≤ (9 : Int32) then some (ci, x1, (0 : Int32)) else some ((-1 : Int32), ci, we)))
def F_B_circles (x1 : Int32) (ci : Int32) (we : Int32) : Option (Int32 × Int32 × Int32) := J_B_circles_0 x1 ci we
def H_B_circles_0 (p : Program) (l : Launch) (e : Env) (s : State) (m : MethodId) (args : Array Value) (below : List Frame) (meth : Method) (c : Code) (D : va_G) (A : Nat → Prop) (a : Nat → Nat) (k : Nat → ClassId) (lab : Nat → Int32) (sg : Nat → Int32) (cc : Int32) (od : Nat → Int32) (sd : Nat → Int32) (go : Nat → Int32) (ta : Nat → Int32) (oe : Nat → Int32) (fp : Nat → Int32) (ro : Nat → Int64) (sp : Nat → Int64) (qr : Nat) (qs : Nat) (f : Int32 → Int32 → Int32 → Option (Int32 × Int32 × Int32)) : Prop := ∀ (x1 : Int32) (ci : Int32) (we : Int32) (r : Int32 × Int32 × Int32), f x1 ci we = some r → ∀ (H : Heap) (locs : List Loc) (ls : Array Slot), va_P D classes (wB a k lab sg cc ci od sd go ta we oe fp ro sp qr qs) H → va_D A (wB a k lab sg cc ci od sd go ta we oe fp ro sp qr qs) → va_S A s.heap H locs → lv_has ls 3 [(0, .ref (a 0)), (1, .int x1)] → W p l e (rm_B_circles) s m args below meth c H locs 0 0 (MQ below (qc_B_circles D A a k lab sg cc od sd go ta oe fp ro sp qr qs r) args s 0 0 A) (F0 m 0 ls [])
set_option maxHeartbeats 4000000 in
set_option maxRecDepth 100000 in
theorem k_B_circles_0 {p : Program} {l : Launch} {e : Env} {s : State} {m : MethodId} {args : Array Value} {below : List Frame} {meth : Method} {c : Code} {D : va_G} {A : Nat → Prop} {a : Nat → Nat} {k : Nat → ClassId} {lab : Nat → Int32} {sg : Nat → Int32} {cc : Int32} {od : Nat → Int32} {sd : Nat → Int32} {go : Nat → Int32} {ta : Nat → Int32} {oe : Nat → Int32} {fp : Nat → Int32} {ro : Nat → Int64} {sp : Nat → Int64} {qr : Nat} {qs : Nat} (C : cx D [(k 1, .int), (k 2, .int), (k 3, .int), (k 4, .int), (k 5, .boolean), (k 6, .int), (k 8, .int), (k 9, .int), (k 11, .long)] R_B b_B_circles 3 (some .int) A p s m args meth c) : H_B_circles_0 p l e s m args below meth c D A a k lab sg cc od sd go ta oe fp ro sp qr qs (J_B_circles_0) := by
  obtain ⟨hx, hb, hr, hml, hown, ht, hlk, hA, hK⟩ := id C
  intro x1 ci we r h H locs ls hP hD hS hl
  unfold J_B_circles_0 at h
  refine lv_iload_n hx hb d_B_circles_0 rfl (lv_at hl 1 rfl) ?_
  refine lv_if_lt (tgt := 10) hx hb d_B_circles_1 (by decide) (fun c_1 => ?_) (fun c_1 => ?_)
  · have h := ite_T c_1 h
    refine lv_iconst (v := (-1)) hx hb d_B_circles_10 (by decide) ?_
    cases h
    exact W.iret hx hb hr (fun t ht hW => ⟨⟨_, (), rfl, rfl, by rw [ht]; exact hP, va_K.moved hW.alike hK, hD⟩, hS.F ht⟩) hS.2.2 d_B_circles_11 hlk
  · have h := ite_F c_1 h
    refine lv_iload_n hx hb d_B_circles_4 rfl (lv_at hl 1 rfl) ?_
    refine lv_bipush (v := 9) hx hb d_B_circles_5 (by decide) ?_
    refine lv_icmp_le (tgt := 12) hx hb d_B_circles_7 (by decide) (fun c_2 => ?_) (fun c_2 => ?_)
    · have h := ite_T c_2 h
      refine lv_aload_n hx hb d_B_circles_12 rfl (lv_at hl 0 rfl) ?_
      refine va_get (D := D) (ci := 0) (v := .int ci) (C := R_B) (T := F_B) (N := 11) hx hb ht iC_B hown hK hP 0 rfl rfl 3 (by decide) (ht _ ix_54) (fun _ h9 => h9) rfl d_B_circles_13 ?_
      refine lv_istore_n (lv' := [(2, .int ci), (0, .ref (a 0)), (1, .int x1)]) hx hb d_B_circles_16 rfl hl (by decide) rfl (fun ls hl => ?_)
      refine lv_aload_n hx hb d_B_circles_17 rfl (lv_at hl 1 rfl) ?_
      refine lv_iload_n hx hb d_B_circles_18 rfl (lv_at hl 2 rfl) ?_
      refine va_put (D := D) (ci := 0) (v := .int x1) (ty := .int) (C := R_B) (T := F_B) (N := 11) hx hb ht iC_B t_B t_B_ok n_B hown hK hP hD hS 0 rfl rfl 3 (by decide) (ht _ ix_54) (fun _ h9 => h9) rfl (by decide +kernel) rfl rfl (Nat.le_of_ble_eq_true rfl) d_B_circles_19 (fun H locs hP hD hS => ?_)
      have hP : va_P D classes (wB a k lab sg cc x1 od sd go ta we oe fp ro sp qr qs) H := hP
      have hD : va_D A (wB a k lab sg cc x1 od sd go ta we oe fp ro sp qr qs) := hD
      refine lv_aload_n hx hb d_B_circles_22 rfl (lv_at hl 1 rfl) ?_
      refine lv_iconst (v := 0) hx hb d_B_circles_23 (by decide) ?_
      refine va_put (D := D) (ci := 0) (v := .int (0 : Int32)) (ty := .boolean) (C := R_B) (T := F_B) (N := 11) hx hb ht iC_B t_B t_B_ok n_B hown hK hP hD hS 0 rfl rfl 10 (by decide) (ht _ ix_39) (fun _ h9 => h9) rfl (by decide +kernel) rfl rfl (Nat.le_of_ble_eq_true rfl) d_B_circles_24 (fun H locs hP hD hS => ?_)
      have hP : va_P D classes (wB a k lab sg cc x1 od sd go ta (0 : Int32) oe fp ro sp qr qs) H := hP
      have hD : va_D A (wB a k lab sg cc x1 od sd go ta (0 : Int32) oe fp ro sp qr qs) := hD
      refine lv_iload_n hx hb d_B_circles_27 rfl (lv_at hl 0 rfl) ?_
      cases h
      exact W.iret hx hb hr (fun t ht hW => ⟨⟨_, (), rfl, rfl, by rw [ht]; exact hP, va_K.moved hW.alike hK, hD⟩, hS.F ht⟩) hS.2.2 d_B_circles_28 hlk
    · have h := ite_F c_2 h
      refine lv_iconst (v := (-1)) hx hb d_B_circles_10 (by decide) ?_
      cases h
      exact W.iret hx hb hr (fun t ht hW => ⟨⟨_, (), rfl, rfl, by rw [ht]; exact hP, va_K.moved hW.alike hK, hD⟩, hS.F ht⟩) hS.2.2 d_B_circles_11 hlk
set_option maxRecDepth 20000 in
theorem c_B_circles (l : Launch) (D : va_G) (a : Nat → Nat) (k : Nat → ClassId) (sz : Nat) (x1 : Int32) (lab : Nat → Int32) (sg : Nat → Int32) (cc : Int32) (ci : Int32) (od : Nat → Int32) (sd : Nat → Int32) (go : Nat → Int32) (ta : Nat → Int32) (we : Int32) (oe : Nat → Int32) (fp : Nat → Int32) (ro : Nat → Int64) (sp : Nat → Int64) (qr : Nat) (qs : Nat) (r : Int32 × Int32 × Int32) (h : F_B_circles x1 ci we = some r) : Met l y_B_circles (Cond.code y_B_circles b_B_circles 3 (some .int) :: lw_g) (rm_B_circles) (va_Pc [.ref (a 0), .int x1] (pcW D [(k 1, .int), (k 2, .int), (k 3, .int), (k 4, .int), (k 5, .boolean), (k 6, .int), (k 8, .int), (k 9, .int), (k 11, .long)] (wB a k lab sg cc ci od sd go ta we oe fp ro sp qr qs) sz)) (qc_B_circles D (va_A (wB a k lab sg cc ci od sd go ta we oe fp ro sp qr qs) sz) a k lab sg cc od sd go ta oe fp ro sp qr qs r) 0 0 (va_A (wB a k lab sg cc ci od sd go ta we oe fp ro sp qr qs) sz) := by
  refine Met.ofW (cc := b_B_circles) (maxL := 3) (ret := (some .int)) (by decide) rfl ?_
  intro p e s m args below meth c s₁ B hml hv
  obtain ⟨rfl, hsz, hP, hK, hD0⟩ := hv
  have hts := atoms_spec (ws := Cond.code y_B_circles b_B_circles 3 (some .int) :: lw_g) B.pre
  subst hsz
  have hD := hD0.self (sz := s.heap.size)
  have hl := lv_entry ([.ref (a 0), .int x1]) (n := 3) (Nat.le_of_ble_eq_true rfl)
  rw [lg_entry_eq]
  generalize (lg_sl ([.ref (a 0), .int x1]) ++ List.replicate (3 - (lg_sl ([.ref (a 0), .int x1])).length) Slot.unset).toArray = ls at hl ⊢
  exact k_B_circles_0 ⟨B.exec, B.bytes, B.returns, hml, findClass_of_methodNamed B.named, fun w hw => hts w (List.mem_cons_of_mem _ hw), B.notSynchronized, fun q h => Or.inr h, hK⟩ _ _ _ _ h _ _ _ hP hD va_S.rf hl

def rm_B_clear : Room := { frames := 1, cells := 0, slots := 0, locals := 21 }
def qc_B_clear (D : va_G) (A : Nat → Prop) (a : Nat → Nat) (k : Nat → ClassId) (lab : Nat → Int32) (sg : Nat → Int32) (sd : Nat → Int32) (go : Nat → Int32) (ta : Nat → Int32) (oe : Nat → Int32) (fp : Nat → Int32) (ro : Nat → Int64) (sp : Nat → Int64) (qr : Nat) (qs : Nat) (r : Int32 × Int32 × Int32 × (Nat → Int32) × Int32) : Array Value → State → Outcome → State → Prop := va_Qi (fun (r1 : Int32) (_ : Unit) => r1 = r.1) (poW D [(k 1, .int), (k 2, .int), (k 3, .int), (k 4, .int), (k 5, .boolean), (k 6, .int), (k 8, .int), (k 9, .int), (k 11, .long)] (wB a k lab sg r.2.1 r.2.2.1 r.2.2.2.1 sd go ta r.2.2.2.2 oe fp ro sp qr qs) A) A
def J_B_clear_0 (cc : Int32) (ci : Int32) (od : Nat → Int32) (we : Int32) : Option (Int32 × Int32 × Int32 × (Nat → Int32) × Int32) :=
  (Option.bind (F_B_orderAsGiven od we) (fun v_1 => some (cc, (0 : Int32), (0 : Int32), v_1.1, v_1.2)))
def F_B_clear (cc : Int32) (ci : Int32) (od : Nat → Int32) (we : Int32) : Option (Int32 × Int32 × Int32 × (Nat → Int32) × Int32) := J_B_clear_0 cc ci od we
def H_B_clear_0 (p : Program) (l : Launch) (e : Env) (s : State) (m : MethodId) (args : Array Value) (below : List Frame) (meth : Method) (c : Code) (D : va_G) (A : Nat → Prop) (a : Nat → Nat) (k : Nat → ClassId) (lab : Nat → Int32) (sg : Nat → Int32) (sd : Nat → Int32) (go : Nat → Int32) (ta : Nat → Int32) (oe : Nat → Int32) (fp : Nat → Int32) (ro : Nat → Int64) (sp : Nat → Int64) (qr : Nat) (qs : Nat) (f : Int32 → Int32 → (Nat → Int32) → Int32 → Option (Int32 × Int32 × Int32 × (Nat → Int32) × Int32)) : Prop := ∀ (cc : Int32) (ci : Int32) (od : Nat → Int32) (we : Int32) (r : Int32 × Int32 × Int32 × (Nat → Int32) × Int32), f cc ci od we = some r → ∀ (H : Heap) (locs : List Loc) (ls : Array Slot), va_P D classes (wB a k lab sg cc ci od sd go ta we oe fp ro sp qr qs) H → va_D A (wB a k lab sg cc ci od sd go ta we oe fp ro sp qr qs) → va_S A s.heap H locs → lv_has ls 2 [(0, .ref (a 0))] → W p l e (rm_B_clear) s m args below meth c H locs 0 0 (MQ below (qc_B_clear D A a k lab sg sd go ta oe fp ro sp qr qs r) args s 0 0 A) (F0 m 0 ls [])
set_option maxHeartbeats 4000000 in
set_option maxRecDepth 100000 in
theorem k_B_clear_0 {p : Program} {l : Launch} {e : Env} {s : State} {m : MethodId} {args : Array Value} {below : List Frame} {meth : Method} {c : Code} {D : va_G} {A : Nat → Prop} {a : Nat → Nat} {k : Nat → ClassId} {lab : Nat → Int32} {sg : Nat → Int32} {sd : Nat → Int32} {go : Nat → Int32} {ta : Nat → Int32} {oe : Nat → Int32} {fp : Nat → Int32} {ro : Nat → Int64} {sp : Nat → Int64} {qr : Nat} {qs : Nat} (C : cx D [(k 1, .int), (k 2, .int), (k 3, .int), (k 4, .int), (k 5, .boolean), (k 6, .int), (k 8, .int), (k 9, .int), (k 11, .long)] R_B b_B_clear 2 (some .int) A p s m args meth c) : H_B_clear_0 p l e s m args below meth c D A a k lab sg sd go ta oe fp ro sp qr qs (J_B_clear_0) := by
  obtain ⟨hx, hb, hr, hml, hown, ht, hlk, hA, hK⟩ := id C
  intro cc ci od we r h H locs ls hP hD hS hl
  unfold J_B_clear_0 at h
  refine lv_aload_n hx hb d_B_clear_0 rfl (lv_at hl 0 rfl) ?_
  refine va_get (D := D) (ci := 0) (v := .int cc) (C := R_B) (T := F_B) (N := 11) hx hb ht iC_B hown hK hP 0 rfl rfl 2 (by decide) (ht _ ix_38) (fun _ h9 => h9) rfl d_B_clear_1 ?_
  refine lv_istore_n (lv' := [(1, .int cc), (0, .ref (a 0))]) hx hb d_B_clear_4 rfl hl (by decide) rfl (fun ls hl => ?_)
  refine lv_aload_n hx hb d_B_clear_5 rfl (lv_at hl 1 rfl) ?_
  refine lv_iconst (v := 0) hx hb d_B_clear_6 (by decide) ?_
  refine va_put (D := D) (ci := 0) (v := .int (0 : Int32)) (ty := .int) (C := R_B) (T := F_B) (N := 11) hx hb ht iC_B t_B t_B_ok n_B hown hK hP hD hS 0 rfl rfl 2 (by decide) (ht _ ix_38) (fun _ h9 => h9) rfl (by decide +kernel) rfl rfl (Nat.le_of_ble_eq_true rfl) d_B_clear_7 (fun H locs hP hD hS => ?_)
  have hP : va_P D classes (wB a k lab sg (0 : Int32) ci od sd go ta we oe fp ro sp qr qs) H := hP
  have hD : va_D A (wB a k lab sg (0 : Int32) ci od sd go ta we oe fp ro sp qr qs) := hD
  refine lv_aload_n hx hb d_B_clear_10 rfl (lv_at hl 1 rfl) ?_
  refine lv_iconst (v := 0) hx hb d_B_clear_11 (by decide) ?_
  refine va_put (D := D) (ci := 0) (v := .int (0 : Int32)) (ty := .int) (C := R_B) (T := F_B) (N := 11) hx hb ht iC_B t_B t_B_ok n_B hown hK hP hD hS 0 rfl rfl 3 (by decide) (ht _ ix_54) (fun _ h9 => h9) rfl (by decide +kernel) rfl rfl (Nat.le_of_ble_eq_true rfl) d_B_clear_12 (fun H locs hP hD hS => ?_)
  have hP : va_P D classes (wB a k lab sg (0 : Int32) (0 : Int32) od sd go ta we oe fp ro sp qr qs) H := hP
  have hD : va_D A (wB a k lab sg (0 : Int32) (0 : Int32) od sd go ta we oe fp ro sp qr qs) := hD
  refine lv_aload_n hx hb d_B_clear_15 rfl (lv_at hl 1 rfl) ?_
  obtain ⟨v_1, e_1, h⟩ := bd_some h
  refine go_Vv (As := []) (rest := []) (wc := (wB a k lab sg (0 : Int32) (0 : Int32) od sd go ta we oe fp ro sp qr qs)) (wr := []) (w1 := (wB a k lab sg (0 : Int32) (0 : Int32) v_1.1 sd go ta v_1.2 oe fp ro sp qr qs)) (w2 := (wB a k lab sg (0 : Int32) (0 : Int32) v_1.1 sd go ta v_1.2 oe fp ro sp qr qs)) (tc := [(k 1, .int), (k 2, .int), (k 3, .int), (k 4, .int), (k 5, .boolean), (k 6, .int), (k 8, .int), (k 9, .int), (k 11, .long)]) hx hb hml hown ht (c_B_orderAsGiven l D a k H.size lab sg (0 : Int32) (0 : Int32) od sd go ta we oe fp ro sp qr qs v_1 e_1) g_B_54 ⟨rfl, rfl⟩ (n := 0) (by decide +kernel) ⟨(Nat.le_of_ble_eq_true rfl), (Nat.le_of_ble_eq_true rfl)⟩ hP hD hK hS hA ⟨Nat.zero_le _, Nat.zero_le _⟩ [0, 1, 2, 3, 4, 5, 6, 7, 8, 9, 10, 11, 12] [] [0, 1, 2, 3, 4, 5, 6, 7, 8] [0, 1, 2, 3, 4, 5, 6, 7, 8, 9, 10, 11, 12] rfl rfl rfl rfl (by decide) (by decide) (by decide) rfl (by decide) 0 rfl rfl rfl rfl rfl hl.1 (Nat.le_of_ble_eq_true rfl) d_B_clear_16 (fun H locs hP hD hS => ?_)
  refine lv_iload_n hx hb d_B_clear_19 rfl (lv_at hl 0 rfl) ?_
  cases h
  exact W.iret hx hb hr (fun t ht hW => ⟨⟨_, (), rfl, rfl, by rw [ht]; exact hP, va_K.moved hW.alike hK, hD⟩, hS.F ht⟩) hS.2.2 d_B_clear_20 hlk
set_option maxRecDepth 20000 in
theorem c_B_clear (l : Launch) (D : va_G) (a : Nat → Nat) (k : Nat → ClassId) (sz : Nat) (lab : Nat → Int32) (sg : Nat → Int32) (cc : Int32) (ci : Int32) (od : Nat → Int32) (sd : Nat → Int32) (go : Nat → Int32) (ta : Nat → Int32) (we : Int32) (oe : Nat → Int32) (fp : Nat → Int32) (ro : Nat → Int64) (sp : Nat → Int64) (qr : Nat) (qs : Nat) (r : Int32 × Int32 × Int32 × (Nat → Int32) × Int32) (h : F_B_clear cc ci od we = some r) : Met l y_B_clear (Cond.code y_B_clear b_B_clear 2 (some .int) :: lw_g) (rm_B_clear) (va_Pc [.ref (a 0)] (pcW D [(k 1, .int), (k 2, .int), (k 3, .int), (k 4, .int), (k 5, .boolean), (k 6, .int), (k 8, .int), (k 9, .int), (k 11, .long)] (wB a k lab sg cc ci od sd go ta we oe fp ro sp qr qs) sz)) (qc_B_clear D (va_A (wB a k lab sg cc ci od sd go ta we oe fp ro sp qr qs) sz) a k lab sg sd go ta oe fp ro sp qr qs r) 0 0 (va_A (wB a k lab sg cc ci od sd go ta we oe fp ro sp qr qs) sz) := by
  refine Met.ofW (cc := b_B_clear) (maxL := 2) (ret := (some .int)) (by decide) rfl ?_
  intro p e s m args below meth c s₁ B hml hv
  obtain ⟨rfl, hsz, hP, hK, hD0⟩ := hv
  have hts := atoms_spec (ws := Cond.code y_B_clear b_B_clear 2 (some .int) :: lw_g) B.pre
  subst hsz
  have hD := hD0.self (sz := s.heap.size)
  have hl := lv_entry ([.ref (a 0)]) (n := 2) (Nat.le_of_ble_eq_true rfl)
  rw [lg_entry_eq]
  generalize (lg_sl ([.ref (a 0)]) ++ List.replicate (2 - (lg_sl ([.ref (a 0)])).length) Slot.unset).toArray = ls at hl ⊢
  exact k_B_clear_0 ⟨B.exec, B.bytes, B.returns, hml, findClass_of_methodNamed B.named, fun w hw => hts w (List.mem_cons_of_mem _ hw), B.notSynchronized, fun q h => Or.inr h, hK⟩ _ _ _ _ _ h _ _ _ hP hD va_S.rf hl

def rm_B_sweep : Room := { frames := 4, cells := 0, slots := 0, locals := 85 }
def qc_B_sweep (D : va_G) (A : Nat → Prop) (a : Nat → Nat) (k : Nat → ClassId) (lab : Nat → Int32) (sg : Nat → Int32) (cc : Int32) (ci : Int32) (ta : Nat → Int32) (oe : Nat → Int32) (fp : Nat → Int32) (ro : Nat → Int64) (sp : Nat → Int64) (qr : Nat) (qs : Nat) (r : Int32 × (Nat → Int32) × (Nat → Int32) × (Nat → Int32) × Int32) : Array Value → State → Outcome → State → Prop := va_Qi (fun (r1 : Int32) (_ : Unit) => r1 = r.1) (poW D [(k 1, .int), (k 2, .int), (k 3, .int), (k 4, .int), (k 5, .boolean), (k 6, .int), (k 8, .int), (k 9, .int), (k 11, .long)] (wB a k lab sg cc ci r.2.1 r.2.2.1 r.2.2.2.1 ta r.2.2.2.2 oe fp ro sp qr qs) A) A
def J_B_sweep_50 (rec28 : Int32 → Int32 → Int32 → Int32 → (Nat → Int32) → Int32 → (Nat → Int32) → (Nat → Int32) → (Nat → Int32) → Int32 → Option (Int32 × (Nat → Int32) × (Nat → Int32) × (Nat → Int32) × Int32)) (x1 : Int32) (x2 : Int32) (x3 : Int32) (x4 : Int32) (y0 : Int32) (lab : Nat → Int32) (cc : Int32) (od : Nat → Int32) (sd : Nat → Int32) (go : Nat → Int32) (we : Int32) : Option (Int32 × (Nat → Int32) × (Nat → Int32) × (Nat → Int32) × Int32) :=
  (Option.bind (F_B_goOver y0 lab sd go) (fun v_1 => (if inb x4 10 then rec28 x1 (x2 + v_1.1) (if x3 < (x2 + v_1.1) then (x2 + v_1.1) else x3) (x4 + 1) lab cc (upd od x4.toNatClampNeg y0) v_1.2.1 v_1.2.2 we else none)))
def J_B_sweep_28 (rec28 : Int32 → Int32 → Int32 → Int32 → (Nat → Int32) → Int32 → (Nat → Int32) → (Nat → Int32) → (Nat → Int32) → Int32 → Option (Int32 × (Nat → Int32) × (Nat → Int32) × (Nat → Int32) × Int32)) (x1 : Int32) (x2 : Int32) (x3 : Int32) (x4 : Int32) (lab : Nat → Int32) (cc : Int32) (od : Nat → Int32) (sd : Nat → Int32) (go : Nat → Int32) (we : Int32) : Option (Int32 × (Nat → Int32) × (Nat → Int32) × (Nat → Int32) × Int32) :=
  (if cc ≤ x4 then some (x3, od, sd, go, (0 : Int32)) else (if x4 = 0 then J_B_sweep_50 rec28 x1 x2 x3 x4 x1 lab cc od sd go we else (Option.bind (F_B_mostJoined lab cc sd go) (fun v_3 => J_B_sweep_50 rec28 x1 x2 x3 x4 v_3 lab cc od sd go we))))
def L_B_sweep_28 : Nat → Int32 → Int32 → Int32 → Int32 → (Nat → Int32) → Int32 → (Nat → Int32) → (Nat → Int32) → (Nat → Int32) → Int32 → Option (Int32 × (Nat → Int32) × (Nat → Int32) × (Nat → Int32) × Int32)
  | 0 => fun _ _ _ _ _ _ _ _ _ _ => none
  | n + 1 => J_B_sweep_28 (L_B_sweep_28 n)
def J_B_sweep_0 (x1 : Int32) (lab : Nat → Int32) (cc : Int32) (od : Nat → Int32) (sd : Nat → Int32) (go : Nat → Int32) (we : Int32) : Option (Int32 × (Nat → Int32) × (Nat → Int32) × (Nat → Int32) × Int32) :=
  (Option.bind (F_B_isCrossing x1 cc) (fun v_1 => (if v_1 = 0 then some ((-1 : Int32), od, sd, go, we) else (Option.bind (F_B_isCode lab cc sd) (fun v_3 => (if v_3.1 = 0 then some ((-1 : Int32), od, v_3.2, go, we) else (Option.bind (F_B_goOverNone v_3.2 go) (fun v_5 => L_B_sweep_28 fu x1 (0 : Int32) (0 : Int32) (0 : Int32) lab cc od v_5.1 v_5.2 we))))))))
def F_B_sweep (x1 : Int32) (lab : Nat → Int32) (cc : Int32) (od : Nat → Int32) (sd : Nat → Int32) (go : Nat → Int32) (we : Int32) : Option (Int32 × (Nat → Int32) × (Nat → Int32) × (Nat → Int32) × Int32) := J_B_sweep_0 x1 lab cc od sd go we
def H_B_sweep_50 (p : Program) (l : Launch) (e : Env) (s : State) (m : MethodId) (args : Array Value) (below : List Frame) (meth : Method) (c : Code) (D : va_G) (A : Nat → Prop) (a : Nat → Nat) (k : Nat → ClassId) (sg : Nat → Int32) (ci : Int32) (ta : Nat → Int32) (oe : Nat → Int32) (fp : Nat → Int32) (ro : Nat → Int64) (sp : Nat → Int64) (qr : Nat) (qs : Nat) (f : Int32 → Int32 → Int32 → Int32 → Int32 → (Nat → Int32) → Int32 → (Nat → Int32) → (Nat → Int32) → (Nat → Int32) → Int32 → Option (Int32 × (Nat → Int32) × (Nat → Int32) × (Nat → Int32) × Int32)) : Prop := ∀ (x1 : Int32) (x2 : Int32) (x3 : Int32) (x4 : Int32) (y0 : Int32) (lab : Nat → Int32) (cc : Int32) (od : Nat → Int32) (sd : Nat → Int32) (go : Nat → Int32) (we : Int32) (r : Int32 × (Nat → Int32) × (Nat → Int32) × (Nat → Int32) × Int32), f x1 x2 x3 x4 y0 lab cc od sd go we = some r → ∀ (H : Heap) (locs : List Loc) (ls : Array Slot), va_P D classes (wB a k lab sg cc ci od sd go ta we oe fp ro sp qr qs) H → va_D A (wB a k lab sg cc ci od sd go ta we oe fp ro sp qr qs) → va_S A s.heap H locs → lv_has ls 6 [(0, .ref (a 0)), (1, .int x1), (2, .int x2), (3, .int x3), (4, .int x4)] → W p l e (rm_B_sweep) s m args below meth c H locs 0 0 (MQ below (qc_B_sweep D A a k lab sg cc ci ta oe fp ro sp qr qs r) args s 0 0 A) (F0 m 50 ls [.int y0])
def H_B_sweep_28 (p : Program) (l : Launch) (e : Env) (s : State) (m : MethodId) (args : Array Value) (below : List Frame) (meth : Method) (c : Code) (D : va_G) (A : Nat → Prop) (a : Nat → Nat) (k : Nat → ClassId) (sg : Nat → Int32) (ci : Int32) (ta : Nat → Int32) (oe : Nat → Int32) (fp : Nat → Int32) (ro : Nat → Int64) (sp : Nat → Int64) (qr : Nat) (qs : Nat) (f : Int32 → Int32 → Int32 → Int32 → (Nat → Int32) → Int32 → (Nat → Int32) → (Nat → Int32) → (Nat → Int32) → Int32 → Option (Int32 × (Nat → Int32) × (Nat → Int32) × (Nat → Int32) × Int32)) : Prop := ∀ (x1 : Int32) (x2 : Int32) (x3 : Int32) (x4 : Int32) (lab : Nat → Int32) (cc : Int32) (od : Nat → Int32) (sd : Nat → Int32) (go : Nat → Int32) (we : Int32) (r : Int32 × (Nat → Int32) × (Nat → Int32) × (Nat → Int32) × Int32), f x1 x2 x3 x4 lab cc od sd go we = some r → ∀ (H : Heap) (locs : List Loc) (ls : Array Slot), va_P D classes (wB a k lab sg cc ci od sd go ta we oe fp ro sp qr qs) H → va_D A (wB a k lab sg cc ci od sd go ta we oe fp ro sp qr qs) → va_S A s.heap H locs → lv_has ls 6 [(0, .ref (a 0)), (1, .int x1), (2, .int x2), (3, .int x3), (4, .int x4)] → W p l e (rm_B_sweep) s m args below meth c H locs 0 0 (MQ below (qc_B_sweep D A a k lab sg cc ci ta oe fp ro sp qr qs r) args s 0 0 A) (F0 m 28 ls [])
def H_B_sweep_0 (p : Program) (l : Launch) (e : Env) (s : State) (m : MethodId) (args : Array Value) (below : List Frame) (meth : Method) (c : Code) (D : va_G) (A : Nat → Prop) (a : Nat → Nat) (k : Nat → ClassId) (sg : Nat → Int32) (ci : Int32) (ta : Nat → Int32) (oe : Nat → Int32) (fp : Nat → Int32) (ro : Nat → Int64) (sp : Nat → Int64) (qr : Nat) (qs : Nat) (f : Int32 → (Nat → Int32) → Int32 → (Nat → Int32) → (Nat → Int32) → (Nat → Int32) → Int32 → Option (Int32 × (Nat → Int32) × (Nat → Int32) × (Nat → Int32) × Int32)) : Prop := ∀ (x1 : Int32) (lab : Nat → Int32) (cc : Int32) (od : Nat → Int32) (sd : Nat → Int32) (go : Nat → Int32) (we : Int32) (r : Int32 × (Nat → Int32) × (Nat → Int32) × (Nat → Int32) × Int32), f x1 lab cc od sd go we = some r → ∀ (H : Heap) (locs : List Loc) (ls : Array Slot), va_P D classes (wB a k lab sg cc ci od sd go ta we oe fp ro sp qr qs) H → va_D A (wB a k lab sg cc ci od sd go ta we oe fp ro sp qr qs) → va_S A s.heap H locs → lv_has ls 6 [(0, .ref (a 0)), (1, .int x1)] → W p l e (rm_B_sweep) s m args below meth c H locs 0 0 (MQ below (qc_B_sweep D A a k lab sg cc ci ta oe fp ro sp qr qs r) args s 0 0 A) (F0 m 0 ls [])
set_option maxHeartbeats 4000000 in
set_option maxRecDepth 100000 in
theorem k_B_sweep_50 {p : Program} {l : Launch} {e : Env} {s : State} {m : MethodId} {args : Array Value} {below : List Frame} {meth : Method} {c : Code} {D : va_G} {A : Nat → Prop} {a : Nat → Nat} {k : Nat → ClassId} {sg : Nat → Int32} {ci : Int32} {ta : Nat → Int32} {oe : Nat → Int32} {fp : Nat → Int32} {ro : Nat → Int64} {sp : Nat → Int64} {qr : Nat} {qs : Nat} {rec28 : Int32 → Int32 → Int32 → Int32 → (Nat → Int32) → Int32 → (Nat → Int32) → (Nat → Int32) → (Nat → Int32) → Int32 → Option (Int32 × (Nat → Int32) × (Nat → Int32) × (Nat → Int32) × Int32)} (C : cx D [(k 1, .int), (k 2, .int), (k 3, .int), (k 4, .int), (k 5, .boolean), (k 6, .int), (k 8, .int), (k 9, .int), (k 11, .long)] R_B b_B_sweep 6 (some .int) A p s m args meth c) (hrec28 : H_B_sweep_28 p l e s m args below meth c D A a k sg ci ta oe fp ro sp qr qs rec28) : H_B_sweep_50 p l e s m args below meth c D A a k sg ci ta oe fp ro sp qr qs (J_B_sweep_50 rec28) := by
  obtain ⟨hx, hb, hr, hml, hown, ht, hlk, hA, hK⟩ := id C
  intro x1 x2 x3 x4 y0 lab cc od sd go we r h H locs ls hP hD hS hl
  unfold J_B_sweep_50 at h
  refine lv_istore (lv' := [(5, .int y0), (0, .ref (a 0)), (1, .int x1), (2, .int x2), (3, .int x3), (4, .int x4)]) hx hb d_B_sweep_50 hl (by decide) rfl (fun ls hl => ?_)
  refine lv_iload_n hx hb d_B_sweep_52 rfl (lv_at hl 3 rfl) ?_
  refine lv_aload_n hx hb d_B_sweep_53 rfl (lv_at hl 1 rfl) ?_
  refine lv_iload hx hb d_B_sweep_54 (lv_at hl 0 rfl) ?_
  obtain ⟨v_1, e_1, h⟩ := bd_some h
  refine go_Vi (r := v_1.1) (As := [.int y0]) (rest := [.int x2]) (wc := (wB a k lab sg cc ci od sd go ta we oe fp ro sp qr qs)) (wr := []) (w1 := (wB a k lab sg cc ci od v_1.2.1 v_1.2.2 ta we oe fp ro sp qr qs)) (w2 := (wB a k lab sg cc ci od v_1.2.1 v_1.2.2 ta we oe fp ro sp qr qs)) (tc := [(k 1, .int), (k 2, .int), (k 3, .int), (k 4, .int), (k 5, .boolean), (k 6, .int), (k 8, .int), (k 9, .int), (k 11, .long)]) hx hb hml hown ht (c_B_goOver l D a k H.size y0 lab sg cc ci od sd go ta we oe fp ro sp qr qs v_1 e_1) g_B_78 ⟨rfl, rfl⟩ (n := 1) (by decide +kernel) ⟨(Nat.le_of_ble_eq_true rfl), (Nat.le_of_ble_eq_true rfl)⟩ hP hD hK hS hA ⟨Nat.zero_le _, Nat.zero_le _⟩ [0, 1, 2, 3, 4, 5, 6, 7, 8, 9, 10, 11, 12] [] [0, 1, 2, 3, 4, 5, 6, 7, 8] [0, 1, 2, 3, 4, 5, 6, 7, 8, 9, 10, 11, 12] rfl rfl rfl rfl (by decide) (by decide) (by decide) rfl (by decide) 0 rfl rfl rfl rfl rfl hl.1 (Nat.le_of_ble_eq_true rfl) d_B_sweep_56 (fun H locs hP hD hS => ?_)
  refine lv_iadd hx hb d_B_sweep_59 ?_
  refine lv_istore_n (lv' := [(2, .int (x2 + v_1.1)), (5, .int y0), (0, .ref (a 0)), (1, .int x1), (3, .int x3), (4, .int x4)]) hx hb d_B_sweep_60 rfl hl (by decide) rfl (fun ls hl => ?_)
  refine lv_iload_n hx hb d_B_sweep_61 rfl (lv_at hl 4 rfl) ?_
  refine lv_iload_n hx hb d_B_sweep_62 rfl (lv_at hl 0 rfl) ?_
  refine va_mmax hx hb (by rw [hml]; exact hl.1.symm) hown (ht _ ix_0) (ht _ ix_1) (ht _ ix_2) (ht _ ix_3) (Nat.le_of_ble_eq_true rfl) (Nat.le_of_ble_eq_true rfl) (Nat.zero_le _) (Nat.zero_le _) d_B_sweep_63 ?_
  refine lv_istore_n (lv' := [(3, .int (if x3 < (x2 + v_1.1) then (x2 + v_1.1) else x3)), (2, .int (x2 + v_1.1)), (5, .int y0), (0, .ref (a 0)), (1, .int x1), (4, .int x4)]) hx hb d_B_sweep_66 rfl hl (by decide) rfl (fun ls hl => ?_)
  refine lv_aload_n hx hb d_B_sweep_67 rfl (lv_at hl 3 rfl) ?_
  refine va_get (D := D) (ci := 0) (v := .ref (a 3)) (C := R_B) (T := F_B) (N := 11) hx hb ht iC_B hown hK hP 0 rfl rfl 4 (by decide) (ht _ ix_40) (fun _ h9 => h9) rfl d_B_sweep_68 ?_
  refine lv_iload hx hb d_B_sweep_71 (lv_at hl 5 rfl) ?_
  refine lv_iload hx hb d_B_sweep_73 (lv_at hl 2 rfl) ?_
  obtain ⟨g_2, h⟩ := gd_some h
  refine va_iast hx hb hK hP hD hS 3 2 rfl rfl (inb_in g_2) d_B_sweep_75 (fun H locs hP hD hS => ?_)
  have hP : va_P D classes (wB a k lab sg cc ci (upd od x4.toNatClampNeg y0) v_1.2.1 v_1.2.2 ta we oe fp ro sp qr qs) H := hP
  have hD : va_D A (wB a k lab sg cc ci (upd od x4.toNatClampNeg y0) v_1.2.1 v_1.2.2 ta we oe fp ro sp qr qs) := hD
  refine lv_iinc (v := x4 + 1) (lv' := [(4, .int (x4 + 1)), (3, .int (if x3 < (x2 + v_1.1) then (x2 + v_1.1) else x3)), (2, .int (x2 + v_1.1)), (5, .int y0), (0, .ref (a 0)), (1, .int x1)]) hx hb d_B_sweep_76 hl (k := 5) rfl rfl (by decide) rfl (fun ls hl => ?_)
  refine lv_goto (tgt := 28) hx hb d_B_sweep_79 (by decide) ?_
  exact hrec28 _ _ _ _ _ _ _ _ _ _ _ h _ _ _ hP hD hS (lv_sub hl [4, 5, 2, 1, 0] rfl)
set_option maxHeartbeats 4000000 in
set_option maxRecDepth 100000 in
theorem k_B_sweep_28 {p : Program} {l : Launch} {e : Env} {s : State} {m : MethodId} {args : Array Value} {below : List Frame} {meth : Method} {c : Code} {D : va_G} {A : Nat → Prop} {a : Nat → Nat} {k : Nat → ClassId} {sg : Nat → Int32} {ci : Int32} {ta : Nat → Int32} {oe : Nat → Int32} {fp : Nat → Int32} {ro : Nat → Int64} {sp : Nat → Int64} {qr : Nat} {qs : Nat} {rec28 : Int32 → Int32 → Int32 → Int32 → (Nat → Int32) → Int32 → (Nat → Int32) → (Nat → Int32) → (Nat → Int32) → Int32 → Option (Int32 × (Nat → Int32) × (Nat → Int32) × (Nat → Int32) × Int32)} (C : cx D [(k 1, .int), (k 2, .int), (k 3, .int), (k 4, .int), (k 5, .boolean), (k 6, .int), (k 8, .int), (k 9, .int), (k 11, .long)] R_B b_B_sweep 6 (some .int) A p s m args meth c) (hrec28 : H_B_sweep_28 p l e s m args below meth c D A a k sg ci ta oe fp ro sp qr qs rec28) : H_B_sweep_28 p l e s m args below meth c D A a k sg ci ta oe fp ro sp qr qs (J_B_sweep_28 rec28) := by
  obtain ⟨hx, hb, hr, hml, hown, ht, hlk, hA, hK⟩ := id C
  intro x1 x2 x3 x4 lab cc od sd go we r h H locs ls hP hD hS hl
  unfold J_B_sweep_28 at h
  refine lv_iload hx hb d_B_sweep_28 (lv_at hl 4 rfl) ?_
  refine lv_aload_n hx hb d_B_sweep_30 rfl (lv_at hl 0 rfl) ?_
  refine va_get (D := D) (ci := 0) (v := .int cc) (C := R_B) (T := F_B) (N := 11) hx hb ht iC_B hown hK hP 0 rfl rfl 2 (by decide) (ht _ ix_38) (fun _ h9 => h9) rfl d_B_sweep_31 ?_
  refine lv_icmp_ge (tgt := 82) hx hb d_B_sweep_34 (by decide) (fun c_1 => ?_) (fun c_1 => ?_)
  · have h := ite_T c_1 h
    refine lv_aload_n hx hb d_B_sweep_82 rfl (lv_at hl 0 rfl) ?_
    refine lv_iconst (v := 0) hx hb d_B_sweep_83 (by decide) ?_
    refine va_put (D := D) (ci := 0) (v := .int (0 : Int32)) (ty := .boolean) (C := R_B) (T := F_B) (N := 11) hx hb ht iC_B t_B t_B_ok n_B hown hK hP hD hS 0 rfl rfl 10 (by decide) (ht _ ix_39) (fun _ h9 => h9) rfl (by decide +kernel) rfl rfl (Nat.le_of_ble_eq_true rfl) d_B_sweep_84 (fun H locs hP hD hS => ?_)
    have hP : va_P D classes (wB a k lab sg cc ci od sd go ta (0 : Int32) oe fp ro sp qr qs) H := hP
    have hD : va_D A (wB a k lab sg cc ci od sd go ta (0 : Int32) oe fp ro sp qr qs) := hD
    refine lv_iload_n hx hb d_B_sweep_87 rfl (lv_at hl 3 rfl) ?_
    cases h
    exact W.iret hx hb hr (fun t ht hW => ⟨⟨_, (), rfl, rfl, by rw [ht]; exact hP, va_K.moved hW.alike hK, hD⟩, hS.F ht⟩) hS.2.2 d_B_sweep_88 hlk
  · have h := ite_F c_1 h
    refine lv_iload hx hb d_B_sweep_37 (lv_at hl 4 rfl) ?_
    refine lv_if_ne (tgt := 46) hx hb d_B_sweep_39 (by decide) (fun c_2 => ?_) (fun c_2 => ?_)
    · have h := ite_F c_2 h
      refine lv_aload_n hx hb d_B_sweep_46 rfl (lv_at hl 0 rfl) ?_
      obtain ⟨v_3, e_3, h⟩ := bd_some h
      refine go_Vi (r := v_3) (As := []) (rest := []) (wc := (wB a k lab sg cc ci od sd go ta we oe fp ro sp qr qs)) (wr := []) (w1 := (wB a k lab sg cc ci od sd go ta we oe fp ro sp qr qs)) (w2 := (wB a k lab sg cc ci od sd go ta we oe fp ro sp qr qs)) (tc := [(k 1, .int), (k 2, .int), (k 3, .int), (k 4, .int), (k 5, .boolean), (k 6, .int), (k 8, .int), (k 9, .int), (k 11, .long)]) hx hb hml hown ht (c_B_mostJoined l D a k H.size lab sg cc ci od sd go ta we oe fp ro sp qr qs v_3 e_3) g_B_74 ⟨rfl, rfl⟩ (n := 0) (by decide +kernel) ⟨(Nat.le_of_ble_eq_true rfl), (Nat.le_of_ble_eq_true rfl)⟩ hP hD hK hS hA ⟨Nat.zero_le _, Nat.zero_le _⟩ [0, 1, 2, 3, 4, 5, 6, 7, 8, 9, 10, 11, 12] [] [0, 1, 2, 3, 4, 5, 6, 7, 8] [0, 1, 2, 3, 4, 5, 6, 7, 8, 9, 10, 11, 12] rfl rfl rfl rfl (by decide) (by decide) (by decide) rfl (by decide) 0 rfl rfl rfl rfl rfl hl.1 (Nat.le_of_ble_eq_true rfl) d_B_sweep_47 (fun H locs hP hD hS => ?_)
      exact (k_B_sweep_50 C hrec28) _ _ _ _ _ _ _ _ _ _ _ _ h _ _ _ hP hD hS (lv_sub hl [0, 1, 2, 3, 4] rfl)
    · have h := ite_T c_2 h
      refine lv_iload_n hx hb d_B_sweep_42 rfl (lv_at hl 1 rfl) ?_
      refine lv_goto (tgt := 50) hx hb d_B_sweep_43 (by decide) ?_
      exact (k_B_sweep_50 C hrec28) _ _ _ _ _ _ _ _ _ _ _ _ h _ _ _ hP hD hS (lv_sub hl [0, 1, 2, 3, 4] rfl)
theorem k_B_sweep_28_L {p : Program} {l : Launch} {e : Env} {s : State} {m : MethodId} {args : Array Value} {below : List Frame} {meth : Method} {c : Code} {D : va_G} {A : Nat → Prop} {a : Nat → Nat} {k : Nat → ClassId} {sg : Nat → Int32} {ci : Int32} {ta : Nat → Int32} {oe : Nat → Int32} {fp : Nat → Int32} {ro : Nat → Int64} {sp : Nat → Int64} {qr : Nat} {qs : Nat} (C : cx D [(k 1, .int), (k 2, .int), (k 3, .int), (k 4, .int), (k 5, .boolean), (k 6, .int), (k 8, .int), (k 9, .int), (k 11, .long)] R_B b_B_sweep 6 (some .int) A p s m args meth c) : ∀ n : Nat, H_B_sweep_28 p l e s m args below meth c D A a k sg ci ta oe fp ro sp qr qs (L_B_sweep_28 n)
  | 0 => fun _ _ _ _ _ _ _ _ _ _ _ h => nomatch h
  | n + 1 => k_B_sweep_28 C (k_B_sweep_28_L C n)
set_option maxHeartbeats 4000000 in
set_option maxRecDepth 100000 in
theorem k_B_sweep_0 {p : Program} {l : Launch} {e : Env} {s : State} {m : MethodId} {args : Array Value} {below : List Frame} {meth : Method} {c : Code} {D : va_G} {A : Nat → Prop} {a : Nat → Nat} {k : Nat → ClassId} {sg : Nat → Int32} {ci : Int32} {ta : Nat → Int32} {oe : Nat → Int32} {fp : Nat → Int32} {ro : Nat → Int64} {sp : Nat → Int64} {qr : Nat} {qs : Nat} (C : cx D [(k 1, .int), (k 2, .int), (k 3, .int), (k 4, .int), (k 5, .boolean), (k 6, .int), (k 8, .int), (k 9, .int), (k 11, .long)] R_B b_B_sweep 6 (some .int) A p s m args meth c) : H_B_sweep_0 p l e s m args below meth c D A a k sg ci ta oe fp ro sp qr qs (J_B_sweep_0) := by
  obtain ⟨hx, hb, hr, hml, hown, ht, hlk, hA, hK⟩ := id C
  intro x1 lab cc od sd go we r h H locs ls hP hD hS hl
  unfold J_B_sweep_0 at h
  refine lv_aload_n hx hb d_B_sweep_0 rfl (lv_at hl 0 rfl) ?_
  refine lv_iload_n hx hb d_B_sweep_1 rfl (lv_at hl 1 rfl) ?_
  obtain ⟨v_1, e_1, h⟩ := bd_some h
  refine go_Vi (r := v_1) (As := [.int x1]) (rest := []) (wc := (wB a k lab sg cc ci od sd go ta we oe fp ro sp qr qs)) (wr := []) (w1 := (wB a k lab sg cc ci od sd go ta we oe fp ro sp qr qs)) (w2 := (wB a k lab sg cc ci od sd go ta we oe fp ro sp qr qs)) (tc := [(k 1, .int), (k 2, .int), (k 3, .int), (k 4, .int), (k 5, .boolean), (k 6, .int), (k 8, .int), (k 9, .int), (k 11, .long)]) hx hb hml hown ht (c_B_isCrossing l D a k H.size x1 lab sg cc ci od sd go ta we oe fp ro sp qr qs v_1 e_1) g_B_64 ⟨rfl, rfl⟩ (n := 1) (by decide +kernel) ⟨(Nat.le_of_ble_eq_true rfl), (Nat.le_of_ble_eq_true rfl)⟩ hP hD hK hS hA ⟨Nat.zero_le _, Nat.zero_le _⟩ [0, 1, 2, 3, 4, 5, 6, 7, 8, 9, 10, 11, 12] [] [0, 1, 2, 3, 4, 5, 6, 7, 8] [0, 1, 2, 3, 4, 5, 6, 7, 8, 9, 10, 11, 12] rfl rfl rfl rfl (by decide) (by decide) (by decide) rfl (by decide) 0 rfl rfl rfl rfl rfl hl.1 (Nat.le_of_ble_eq_true rfl) d_B_sweep_2 (fun H locs hP hD hS => ?_)
  refine lv_if_eq (tgt := 15) hx hb d_B_sweep_5 (by decide) (fun c_2 => ?_) (fun c_2 => ?_)
  · have h := ite_T c_2 h
    refine lv_iconst (v := (-1)) hx hb d_B_sweep_15 (by decide) ?_
    cases h
    exact W.iret hx hb hr (fun t ht hW => ⟨⟨_, (), rfl, rfl, by rw [ht]; exact hP, va_K.moved hW.alike hK, hD⟩, hS.F ht⟩) hS.2.2 d_B_sweep_16 hlk
  · have h := ite_F c_2 h
    refine lv_aload_n hx hb d_B_sweep_8 rfl (lv_at hl 0 rfl) ?_
    obtain ⟨v_3, e_3, h⟩ := bd_some h
    refine go_Vi (r := v_3.1) (As := []) (rest := []) (wc := (wB a k lab sg cc ci od sd go ta we oe fp ro sp qr qs)) (wr := []) (w1 := (wB a k lab sg cc ci od v_3.2 go ta we oe fp ro sp qr qs)) (w2 := (wB a k lab sg cc ci od v_3.2 go ta we oe fp ro sp qr qs)) (tc := [(k 1, .int), (k 2, .int), (k 3, .int), (k 4, .int), (k 5, .boolean), (k 6, .int), (k 8, .int), (k 9, .int), (k 11, .long)]) hx hb hml hown ht (c_B_isCode l D a k H.size lab sg cc ci od sd go ta we oe fp ro sp qr qs v_3 e_3) g_B_67 ⟨rfl, rfl⟩ (n := 0) (by decide +kernel) ⟨(Nat.le_of_ble_eq_true rfl), (Nat.le_of_ble_eq_true rfl)⟩ hP hD hK hS hA ⟨Nat.zero_le _, Nat.zero_le _⟩ [0, 1, 2, 3, 4, 5, 6, 7, 8, 9, 10, 11, 12] [] [0, 1, 2, 3, 4, 5, 6, 7, 8] [0, 1, 2, 3, 4, 5, 6, 7, 8, 9, 10, 11, 12] rfl rfl rfl rfl (by decide) (by decide) (by decide) rfl (by decide) 0 rfl rfl rfl rfl rfl hl.1 (Nat.le_of_ble_eq_true rfl) d_B_sweep_9 (fun H locs hP hD hS => ?_)
    refine lv_if_ne (tgt := 17) hx hb d_B_sweep_12 (by decide) (fun c_4 => ?_) (fun c_4 => ?_)
    · have h := ite_F c_4 h
      refine lv_aload_n hx hb d_B_sweep_17 rfl (lv_at hl 0 rfl) ?_
      obtain ⟨v_5, e_5, h⟩ := bd_some h
      refine go_Vv (As := []) (rest := []) (wc := (wB a k lab sg cc ci od v_3.2 go ta we oe fp ro sp qr qs)) (wr := []) (w1 := (wB a k lab sg cc ci od v_5.1 v_5.2 ta we oe fp ro sp qr qs)) (w2 := (wB a k lab sg cc ci od v_5.1 v_5.2 ta we oe fp ro sp qr qs)) (tc := [(k 1, .int), (k 2, .int), (k 3, .int), (k 4, .int), (k 5, .boolean), (k 6, .int), (k 8, .int), (k 9, .int), (k 11, .long)]) hx hb hml hown ht (c_B_goOverNone l D a k H.size lab sg cc ci od v_3.2 go ta we oe fp ro sp qr qs v_5 e_5) g_B_71 ⟨rfl, rfl⟩ (n := 0) (by decide +kernel) ⟨(Nat.le_of_ble_eq_true rfl), (Nat.le_of_ble_eq_true rfl)⟩ hP hD hK hS hA ⟨Nat.zero_le _, Nat.zero_le _⟩ [0, 1, 2, 3, 4, 5, 6, 7, 8, 9, 10, 11, 12] [] [0, 1, 2, 3, 4, 5, 6, 7, 8] [0, 1, 2, 3, 4, 5, 6, 7, 8, 9, 10, 11, 12] rfl rfl rfl rfl (by decide) (by decide) (by decide) rfl (by decide) 0 rfl rfl rfl rfl rfl hl.1 (Nat.le_of_ble_eq_true rfl) d_B_sweep_18 (fun H locs hP hD hS => ?_)
      refine lv_iconst (v := 0) hx hb d_B_sweep_21 (by decide) ?_
      refine lv_istore_n (lv' := [(2, .int (0 : Int32)), (0, .ref (a 0)), (1, .int x1)]) hx hb d_B_sweep_22 rfl hl (by decide) rfl (fun ls hl => ?_)
      refine lv_iconst (v := 0) hx hb d_B_sweep_23 (by decide) ?_
      refine lv_istore_n (lv' := [(3, .int (0 : Int32)), (2, .int (0 : Int32)), (0, .ref (a 0)), (1, .int x1)]) hx hb d_B_sweep_24 rfl hl (by decide) rfl (fun ls hl => ?_)
      refine lv_iconst (v := 0) hx hb d_B_sweep_25 (by decide) ?_
      refine lv_istore (lv' := [(4, .int (0 : Int32)), (3, .int (0 : Int32)), (2, .int (0 : Int32)), (0, .ref (a 0)), (1, .int x1)]) hx hb d_B_sweep_26 hl (by decide) rfl (fun ls hl => ?_)
      exact (k_B_sweep_28_L C fu) _ _ _ _ _ _ _ _ _ _ _ h _ _ _ hP hD hS (lv_sub hl [3, 4, 2, 1, 0] rfl)
    · have h := ite_T c_4 h
      refine lv_iconst (v := (-1)) hx hb d_B_sweep_15 (by decide) ?_
      cases h
      exact W.iret hx hb hr (fun t ht hW => ⟨⟨_, (), rfl, rfl, by rw [ht]; exact hP, va_K.moved hW.alike hK, hD⟩, hS.F ht⟩) hS.2.2 d_B_sweep_16 hlk
set_option maxRecDepth 20000 in
theorem c_B_sweep (l : Launch) (D : va_G) (a : Nat → Nat) (k : Nat → ClassId) (sz : Nat) (x1 : Int32) (lab : Nat → Int32) (sg : Nat → Int32) (cc : Int32) (ci : Int32) (od : Nat → Int32) (sd : Nat → Int32) (go : Nat → Int32) (ta : Nat → Int32) (we : Int32) (oe : Nat → Int32) (fp : Nat → Int32) (ro : Nat → Int64) (sp : Nat → Int64) (qr : Nat) (qs : Nat) (r : Int32 × (Nat → Int32) × (Nat → Int32) × (Nat → Int32) × Int32) (h : F_B_sweep x1 lab cc od sd go we = some r) : Met l y_B_sweep (Cond.code y_B_sweep b_B_sweep 6 (some .int) :: lw_g) (rm_B_sweep) (va_Pc [.ref (a 0), .int x1] (pcW D [(k 1, .int), (k 2, .int), (k 3, .int), (k 4, .int), (k 5, .boolean), (k 6, .int), (k 8, .int), (k 9, .int), (k 11, .long)] (wB a k lab sg cc ci od sd go ta we oe fp ro sp qr qs) sz)) (qc_B_sweep D (va_A (wB a k lab sg cc ci od sd go ta we oe fp ro sp qr qs) sz) a k lab sg cc ci ta oe fp ro sp qr qs r) 0 0 (va_A (wB a k lab sg cc ci od sd go ta we oe fp ro sp qr qs) sz) := by
  refine Met.ofW (cc := b_B_sweep) (maxL := 6) (ret := (some .int)) (by decide) rfl ?_
  intro p e s m args below meth c s₁ B hml hv
  obtain ⟨rfl, hsz, hP, hK, hD0⟩ := hv
  have hts := atoms_spec (ws := Cond.code y_B_sweep b_B_sweep 6 (some .int) :: lw_g) B.pre
  subst hsz
  have hD := hD0.self (sz := s.heap.size)
  have hl := lv_entry ([.ref (a 0), .int x1]) (n := 6) (Nat.le_of_ble_eq_true rfl)
  rw [lg_entry_eq]
  generalize (lg_sl ([.ref (a 0), .int x1]) ++ List.replicate (6 - (lg_sl ([.ref (a 0), .int x1])).length) Slot.unset).toArray = ls at hl ⊢
  exact k_B_sweep_0 ⟨B.exec, B.bytes, B.returns, hml, findClass_of_methodNamed B.named, fun w hw => hts w (List.mem_cons_of_mem _ hw), B.notSynchronized, fun q h => Or.inr h, hK⟩ _ _ _ _ _ _ _ _ h _ _ _ hP hD va_S.rf hl
