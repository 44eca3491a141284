/-! java.util.Arrays.fill, of ints and of longs -/
theorem arrV_cong {cI : ClassId} {N : Nat} {f g : Nat → Value} (h : ∀ j, j < N → f j = g j) : arrV cI N f = arrV cI N g := by
  have e : (fun j : Fin N => f j.val) = (fun j : Fin N => g j.val) := funext fun j => h j.val j.isLt
  unfold arrV
  rw [e]
theorem vp_one {D : va_G} {q : Nat} {x y : va_E} {H : Heap} (h : va_P D classes [(q, x)] H) (hxy : va_at D classes (q, x) H → va_at D classes (q, y) H) : va_P D classes [(q, y)] H := by
  intro k z hz
  match k, hz with
  | 0, hz => cases hz; exact hxy (h 0 _ rfl)
  | k + 1, hz => simp at hz
theorem vd_one {A : Nat → Prop} {q : Nat} {x y : va_E} (h : va_D A [(q, x)]) : va_D A [(q, y)] := by
  refine ⟨fun i j p r hi hj _ => ?_, fun k z hz => ?_⟩
  · have h1 := (List.getElem?_eq_some_iff.mp hi).1
    have h2 := (List.getElem?_eq_some_iff.mp hj).1
    simp at h1 h2
    omega
  · match k, hz with
    | 0, hz => cases hz; exact h.2 0 (q, x) rfl
    | k + 1, hz => simp at hz
theorem va_fillI {D : va_G} {q n : Nat} {kc : ClassId} {f g : Nat → Int32} {H : Heap} (h : va_P D classes [(q, .inl (kc, n, .inl f))] H) (e : ∀ j, j < n → f j = g j) : va_P D classes [(q, .inl (kc, n, .inl g))] H := by
  refine vp_one h (fun h => ?_)
  have h : H[q]? = some (arrV kc n (fun j => .int (f j))) := h
  show H[q]? = some (arrV kc n (fun j => .int (g j)))
  rw [h, arrV_cong (fun j hj => by rw [e j hj])]
theorem va_fillJ {D : va_G} {q n : Nat} {kc : ClassId} {f g : Nat → Int64} {H : Heap} (h : va_P D classes [(q, .inl (kc, n, .inr (.inl f)))] H) (e : ∀ j, j < n → f j = g j) : va_P D classes [(q, .inl (kc, n, .inr (.inl g)))] H := by
  refine vp_one h (fun h => ?_)
  have h : H[q]? = some (arrV kc n (fun j => .long (f j))) := h
  show H[q]? = some (arrV kc n (fun j => .long (g j)))
  rw [h, arrV_cong (fun j hj => by rw [e j hj])]
def rm_fill : Room := { frames := 0, cells := 0, slots := 0, locals := 0 }
set_option maxHeartbeats 4000000 in
set_option maxRecDepth 100000 in
theorem k_fillI {p : Program} {l : Launch} {e : Env} {s : State} {m : MethodId} {args : Array Value} {below : List Frame} {meth : Method} {c : Code} {D : va_G} {A : Nat → Prop} {q n : Nat} {kc : ClassId} {v : Int32} (hn : n < 2 ^ 31) (C : cx D [(kc, .int)] "java/util/Arrays" b_fillI 4 none A p s m args meth c) :
    ∀ (j i : Nat) (f : Nat → Int32), i + j = n → (∀ t, t < i → f t = v) → ∀ (H : Heap) (locs : List Loc) (ls : Array Slot), va_P D classes [(q, .inl (kc, n, .inl f))] H → va_D A [(q, .inl (kc, n, .inl f))] → va_S A s.heap H locs → lv_has ls 4 [(2, .int (nI i)), (3, .int (nI n)), (0, .ref q), (1, .int v)] → W p l e rm_fill s m args below meth c H locs 0 0 (MQ below (va_Qv (fun (_ : Unit) => True) (poW D [(kc, .int)] [(q, .inl (kc, n, .inl (fun _ => v)))] A) A) args s 0 0 A) (F0 m 5 ls []) := by
  obtain ⟨hx, hb, hr, hml, hown, ht, hlk, hA, hK⟩ := id C
  intro j
  induction j with
  | zero =>
    intro i f hi hf H locs ls hP hD hS hl
    obtain rfl : i = n := by omega
    refine lv_iload_n hx hb d_fillI_5 rfl (lv_at hl 0 rfl) ?_
    refine lv_iload_n hx hb d_fillI_6 rfl (lv_at hl 1 rfl) ?_
    refine lv_icmp_ge (tgt := 20) hx hb d_fillI_7 (by decide) (fun c1 => ?_) (fun c1 => ?_)
    · have hP := va_fillI (g := fun _ => v) hP hf
      have hD := vd_one (y := .inl (kc, i, .inl (fun _ => v))) hD
      exact W.vret hx hb hr (fun t ht hW => ⟨⟨(), rfl, trivial, by rw [ht]; exact hP, va_K.moved hW.alike hK, hD⟩, hS.F ht⟩) hS.2.2 d_fillI_20 hlk
    · exact absurd (nI_le (Nat.le_refl _) hn) c1
  | succ j ih =>
    intro i f hi hf H locs ls hP hD hS hl
    refine lv_iload_n hx hb d_fillI_5 rfl (lv_at hl 0 rfl) ?_
    refine lv_iload_n hx hb d_fillI_6 rfl (lv_at hl 1 rfl) ?_
    refine lv_icmp_ge (tgt := 20) hx hb d_fillI_7 (by decide) (fun c1 => ?_) (fun c1 => ?_)
    · exact absurd c1 (nI_ge (by omega) hn)
    · refine lv_aload_n hx hb d_fillI_10 rfl (lv_at hl 2 rfl) ?_
      refine lv_iload_n hx hb d_fillI_11 rfl (lv_at hl 0 rfl) ?_
      refine lv_iload_n hx hb d_fillI_12 rfl (lv_at hl 3 rfl) ?_
      refine va_iast hx hb hK hP hD hS 0 0 rfl rfl (vp_in_nI (by omega) hn) d_fillI_13 (fun H locs hP hD hS => ?_)
      rw [nI_clamp (by omega)] at hP hD
      have hP : va_P D classes [(q, .inl (kc, n, .inl (upd f i v)))] H := hP
      have hD : va_D A [(q, .inl (kc, n, .inl (upd f i v)))] := hD
      refine lv_iinc (v := nI (i + 1)) (lv' := [(2, .int (nI (i + 1))), (3, .int (nI n)), (0, .ref q), (1, .int v)]) hx hb d_fillI_14 hl (k := 0) rfl (by rw [nI_succ]; rfl) (by decide) rfl (fun ls hl => ?_)
      refine lv_goto (tgt := 5) hx hb d_fillI_17 (by decide) ?_
      exact ih (i + 1) (upd f i v) (by omega) (fun t h => by
        by_cases q : t = i
        · rw [q]; exact pk_us
        · rw [pk_un q]; exact hf t (by omega)) H locs ls hP hD hS hl
set_option maxRecDepth 20000 in
theorem c_fillI (l : Launch) (D : va_G) (q : Nat) (kc : ClassId) (n : Nat) (sz : Nat) (f : Nat → Int32) (v : Int32) (hn : n < 2 ^ 31) : Met l y_fillI (Cond.code y_fillI b_fillI 4 none :: lw_g) rm_fill (va_Pc [.ref q, .int v] (pcW D [(kc, .int)] [(q, .inl (kc, n, .inl f))] sz)) (va_Qv (fun (_ : Unit) => True) (poW D [(kc, .int)] [(q, .inl (kc, n, .inl (fun _ => v)))] (va_A [(q, .inl (kc, n, .inl f))] sz)) (va_A [(q, .inl (kc, n, .inl f))] sz)) 0 0 (va_A [(q, .inl (kc, n, .inl f))] sz) := by
  refine Met.ofW (cc := b_fillI) (maxL := 4) (ret := none) (by decide) rfl ?_
  intro p e s m args below meth c s₁ B hml hv
  obtain ⟨rfl, hsz, hP, hK, hD0⟩ := hv
  have hts := atoms_spec (ws := Cond.code y_fillI b_fillI 4 none :: lw_g) B.pre
  subst hsz
  have hD := hD0.self (sz := s.heap.size)
  have hl := lv_entry ([.ref q, .int v]) (n := 4) (Nat.le_of_ble_eq_true rfl)
  rw [lg_entry_eq]
  generalize (lg_sl ([.ref q, .int v]) ++ List.replicate (4 - (lg_sl ([.ref q, .int v])).length) Slot.unset).toArray = ls at hl ⊢
  have hl : lv_has ls 4 [(0, .ref q), (1, .int v)] := hl
  have C : cx D [(kc, .int)] "java/util/Arrays" b_fillI 4 none (va_A [(q, .inl (kc, n, .inl f))] s.heap.size) p s m [Value.ref q, Value.int v].toArray meth c := ⟨B.exec, B.bytes, B.returns, hml, findClass_of_methodNamed B.named, fun w hw => hts w (List.mem_cons_of_mem _ hw), B.notSynchronized, fun q h => Or.inr h, hK⟩
  obtain ⟨hx, hb, hr, hml, hown, ht, hlk, hA, hK⟩ := id C
  refine lv_iconst (v := 0) hx hb d_fillI_0 (by decide) ?_
  refine lv_istore_n (lv' := [(2, .int 0), (0, .ref q), (1, .int v)]) hx hb d_fillI_1 rfl hl (by decide) rfl (fun ls hl => ?_)
  refine lv_aload_n hx hb d_fillI_2 rfl (lv_at hl 1 rfl) ?_
  refine va_alen (v := nI n) hx hb hK hP 0 0 rfl rfl rfl d_fillI_3 ?_
  refine lv_istore_n (lv' := [(3, .int (nI n)), (2, .int 0), (0, .ref q), (1, .int v)]) hx hb d_fillI_4 rfl hl (by decide) rfl (fun ls hl => ?_)
  exact k_fillI hn C n 0 f (by omega) (fun t h => absurd h (Nat.not_lt_zero t)) _ _ ls hP hD va_S.rf (lv_sub hl [1, 0, 2, 3] rfl)
set_option maxHeartbeats 4000000 in
set_option maxRecDepth 100000 in
theorem k_fillJ {p : Program} {l : Launch} {e : Env} {s : State} {m : MethodId} {args : Array Value} {below : List Frame} {meth : Method} {c : Code} {D : va_G} {A : Nat → Prop} {q n : Nat} {kc : ClassId} {v : Int64} (hn : n < 2 ^ 31) (C : cx D [(kc, .long)] "java/util/Arrays" b_fillJ 5 none A p s m args meth c) :
    ∀ (j i : Nat) (f : Nat → Int64), i + j = n → (∀ t, t < i → f t = v) → ∀ (H : Heap) (locs : List Loc) (ls : Array Slot), va_P D classes [(q, .inl (kc, n, .inr (.inl f)))] H → va_D A [(q, .inl (kc, n, .inr (.inl f)))] → va_S A s.heap H locs → lv_has ls 5 [(3, .int (nI i)), (4, .int (nI n)), (0, .ref q), (1, .long v)] → W p l e rm_fill s m args below meth c H locs 0 0 (MQ below (va_Qv (fun (_ : Unit) => True) (poW D [(kc, .long)] [(q, .inl (kc, n, .inr (.inl (fun _ => v))))] A) A) args s 0 0 A) (F0 m 6 ls []) := by
  obtain ⟨hx, hb, hr, hml, hown, ht, hlk, hA, hK⟩ := id C
  intro j
  induction j with
  | zero =>
    intro i f hi hf H locs ls hP hD hS hl
    obtain rfl : i = n := by omega
    refine lv_iload_n hx hb d_fillJ_6 rfl (lv_at hl 0 rfl) ?_
    refine lv_iload hx hb d_fillJ_7 (lv_at hl 1 rfl) ?_
    refine lv_icmp_ge (tgt := 22) hx hb d_fillJ_9 (by decide) (fun c1 => ?_) (fun c1 => ?_)
    · have hP := va_fillJ (g := fun _ => v) hP hf
      have hD := vd_one (y := .inl (kc, i, .inr (.inl (fun _ => v)))) hD
      exact W.vret hx hb hr (fun t ht hW => ⟨⟨(), rfl, trivial, by rw [ht]; exact hP, va_K.moved hW.alike hK, hD⟩, hS.F ht⟩) hS.2.2 d_fillJ_22 hlk
    · exact absurd (nI_le (Nat.le_refl _) hn) c1
  | succ j ih =>
    intro i f hi hf H locs ls hP hD hS hl
    refine lv_iload_n hx hb d_fillJ_6 rfl (lv_at hl 0 rfl) ?_
    refine lv_iload hx hb d_fillJ_7 (lv_at hl 1 rfl) ?_
    refine lv_icmp_ge (tgt := 22) hx hb d_fillJ_9 (by decide) (fun c1 => ?_) (fun c1 => ?_)
    · exact absurd c1 (nI_ge (by omega) hn)
    · refine lv_aload_n hx hb d_fillJ_12 rfl (lv_at hl 2 rfl) ?_
      refine lv_iload_n hx hb d_fillJ_13 rfl (lv_at hl 0 rfl) ?_
      refine lv_lload_n hx hb d_fillJ_14 rfl (lv_at hl 3 rfl) ?_
      refine va_last hx hb hK hP hD hS 0 0 rfl rfl (vp_in_nI (by omega) hn) d_fillJ_15 (fun H locs hP hD hS => ?_)
      rw [nI_clamp (by omega)] at hP hD
      have hP : va_P D classes [(q, .inl (kc, n, .inr (.inl (vp_updL f i v))))] H := hP
      have hD : va_D A [(q, .inl (kc, n, .inr (.inl (vp_updL f i v))))] := hD
      refine lv_iinc (v := nI (i + 1)) (lv' := [(3, .int (nI (i + 1))), (4, .int (nI n)), (0, .ref q), (1, .long v)]) hx hb d_fillJ_16 hl (k := 0) rfl (by rw [nI_succ]; rfl) (by decide) rfl (fun ls hl => ?_)
      refine lv_goto (tgt := 6) hx hb d_fillJ_19 (by decide) ?_
      exact ih (i + 1) (vp_updL f i v) (by omega) (fun t h => by
        by_cases q : t = i
        · rw [q]; exact pk_uLs
        · rw [pk_uLn q]; exact hf t (by omega)) H locs ls hP hD hS hl
set_option maxRecDepth 20000 in
theorem c_fillJ (l : Launch) (D : va_G) (q : Nat) (kc : ClassId) (n : Nat) (sz : Nat) (f : Nat → Int64) (v : Int64) (hn : n < 2 ^ 31) : Met l y_fillJ (Cond.code y_fillJ b_fillJ 5 none :: lw_g) rm_fill (va_Pc [.ref q, .long v] (pcW D [(kc, .long)] [(q, .inl (kc, n, .inr (.inl f)))] sz)) (va_Qv (fun (_ : Unit) => True) (poW D [(kc, .long)] [(q, .inl (kc, n, .inr (.inl (fun _ => v))))] (va_A [(q, .inl (kc, n, .inr (.inl f)))] sz)) (va_A [(q, .inl (kc, n, .inr (.inl f)))] sz)) 0 0 (va_A [(q, .inl (kc, n, .inr (.inl f)))] sz) := by
  refine Met.ofW (cc := b_fillJ) (maxL := 5) (ret := none) (by decide) rfl ?_
  intro p e s m args below meth c s₁ B hml hv
  obtain ⟨rfl, hsz, hP, hK, hD0⟩ := hv
  have hts := atoms_spec (ws := Cond.code y_fillJ b_fillJ 5 none :: lw_g) B.pre
  subst hsz
  have hD := hD0.self (sz := s.heap.size)
  have hl := lv_entry ([.ref q, .long v]) (n := 5) (Nat.le_of_ble_eq_true rfl)
  rw [lg_entry_eq]
  generalize (lg_sl ([.ref q, .long v]) ++ List.replicate (5 - (lg_sl ([.ref q, .long v])).length) Slot.unset).toArray = ls at hl ⊢
  have hl : lv_has ls 5 [(0, .ref q), (1, .long v)] := hl
  have C : cx D [(kc, .long)] "java/util/Arrays" b_fillJ 5 none (va_A [(q, .inl (kc, n, .inr (.inl f)))] s.heap.size) p s m [Value.ref q, Value.long v].toArray meth c := ⟨B.exec, B.bytes, B.returns, hml, findClass_of_methodNamed B.named, fun w hw => hts w (List.mem_cons_of_mem _ hw), B.notSynchronized, fun q h => Or.inr h, hK⟩
  obtain ⟨hx, hb, hr, hml, hown, ht, hlk, hA, hK⟩ := id C
  refine lv_iconst (v := 0) hx hb d_fillJ_0 (by decide) ?_
  refine lv_istore_n (lv' := [(3, .int 0), (0, .ref q), (1, .long v)]) hx hb d_fillJ_1 rfl hl (by decide) rfl (fun ls hl => ?_)
  refine lv_aload_n hx hb d_fillJ_2 rfl (lv_at hl 1 rfl) ?_
  refine va_alen (v := nI n) hx hb hK hP 0 0 rfl rfl rfl d_fillJ_3 ?_
  refine lv_istore (lv' := [(4, .int (nI n)), (3, .int 0), (0, .ref q), (1, .long v)]) hx hb d_fillJ_4 hl (by decide) rfl (fun ls hl => ?_)
  exact k_fillJ hn C n 0 f (by omega) (fun t h => absurd h (Nat.not_lt_zero t)) _ _ ls hP hD va_S.rf (lv_sub hl [1, 0, 2, 3] rfl)
