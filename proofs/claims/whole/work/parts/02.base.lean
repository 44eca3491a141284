/-! BASE: words all in one list (lw_g), contexts, calls that keep the world's shape. -/
theorem lw_good {w : Cond} (h : w ∈ lw_g) : w ∈ lw_g ∧ ((w.onTables && w.keeps) = true ∨ ∃ ty, w = .arrayClass ty) := ⟨h, good_of_word (List.mem_filter.mp h).2⟩
theorem gd_V {own C : String} {idx n : Nat} {y : MethodName} {b : ByteArray} {rt : Option FieldType} (h1 : Cond.methodLink own idx y ∈ lw_g) (h2 : Cond.instanceMethod y ∈ lw_g) (h3 : Cond.selects C y y ∈ lw_g) (h4 : Cond.initialized C ∈ lw_g) (h5 : Cond.code y b n rt ∈ lw_g) : GoodIn lw_g (wsV own idx C y (Cond.code y b n rt :: lw_g)) := by
  intro w hw
  simp only [wsV, List.mem_append, List.mem_cons, List.not_mem_nil, or_false] at hw
  rcases hw with (rfl | rfl | rfl | rfl) | (rfl | hw)
  · exact lw_good h1
  · exact lw_good h2
  · exact lw_good h3
  · exact lw_good h4
  · exact lw_good h5
  · exact lw_good hw
theorem gd_S {own : String} {idx n : Nat} {y : MethodName} {b : ByteArray} {rt : Option FieldType} (h1 : Cond.methodLink own idx y ∈ lw_g) (h2 : Cond.static y ∈ lw_g) (h4 : Cond.initialized y.cls ∈ lw_g) (h5 : Cond.code y b n rt ∈ lw_g) : GoodIn lw_g (va_wsS own idx y (Cond.code y b n rt :: lw_g)) := by
  intro w hw
  simp only [va_wsS, List.mem_append, List.mem_cons, List.not_mem_nil, or_false] at hw
  rcases hw with (rfl | rfl | rfl) | (rfl | hw)
  · exact lw_good h1
  · exact lw_good h2
  · exact lw_good h4
  · exact lw_good h5
  · exact lw_good hw
theorem gd_T {n : Nat} {y : MethodName} {b : ByteArray} {rt : Option FieldType} (h5 : Cond.code y b n rt ∈ lw_g) : GoodIn lw_g (Cond.code y b n rt :: lw_g) := by
  intro w hw
  rcases List.mem_cons.mp hw with rfl | hw
  · exact lw_good h5
  · exact lw_good hw
/-- an index within an array of n places, as a test -/
def inb (i : Int32) (n : Nat) : Bool := decide (0 ≤ i.toInt) && decide (i.toInt < (n : Int))
theorem inb_iff {i : Int32} {n : Nat} : inb i n = true ↔ 0 ≤ i.toInt ∧ i.toInt < (n : Int) := by simp [inb]
theorem inb_in {i : Int32} {n : Nat} (h : inb i n = true) : vp_in i n := vp_in_iff.mpr (inb_iff.mp h)
theorem inb_of {i : Int32} {n : Nat} (h : vp_in i n) : inb i n = true := inb_iff.mpr (vp_in_iff.mp h)
theorem inb_nI {j n : Nat} (h : j < n) (hn : n < 2 ^ 31) : inb (nI j) n = true := inb_of (vp_in_nI h hn)
def isb (v : Int32) : Bool := decide (v = 0) || decide (v = 1)
theorem isb_nar {v : Int32} (h : isb v = true) : narrow .boolean (.int v) = .int v := by
  simp only [isb, Bool.or_eq_true, decide_eq_true_eq] at h
  rcases h with rfl | rfl <;> rfl
/-- how far a loop may go at most -/
def fu : Nat := 5000
theorem gd_some {α : Type} {b : Bool} {k : Option α} {r : α} (h : (if b = true then k else none) = some r) : b = true ∧ k = some r := by
  cases b
  · simp at h
  · exact ⟨rfl, by simpa using h⟩
theorem bd_some {α β : Type} {o : Option α} {f : α → Option β} {r : β} (h : Option.bind o f = some r) : ∃ q, o = some q ∧ f q = some r := by
  cases o with
  | none => simp at h
  | some q => exact ⟨q, rfl, h⟩
theorem ite_T {α : Type} {c : Prop} [Decidable c] {a b : Option α} {r : α} (hc : c) (h : (if c then a else b) = some r) : a = some r := by rwa [if_pos hc] at h
theorem ite_F {α : Type} {c : Prop} [Decidable c] {a b : Option α} {r : α} (hc : ¬ c) (h : (if c then a else b) = some r) : b = some r := by rwa [if_neg hc] at h
theorem sw_ne {x v : Int32} (h : ¬ x = v) : ¬ x.toInt = v.toInt := fun q => h (Int32.toInt_inj.mp q)
/-- what holds all through a method's body -/
def cx (D : va_G) (tys : List (ClassId × FieldType)) (own : String) (cc : ByteArray) (nL : Nat) (ret : Option FieldType) (A : Nat → Prop) (p : Program) (s : State) (m : MethodId) (args : Array Value) (meth : Method) (c : Code) : Prop :=
  p.tables.exec = Jvm.exec ∧ c.code = cc ∧ meth.sig.returnType = ret ∧ c.maxLocals = nL ∧ s.vm.findClass own = some m.cls ∧ (∀ w ∈ lw_g, w.before args s = true) ∧ meth.locks = false ∧ (∀ q : Nat, s.heap.size ≤ q → A q) ∧ va_K D classes tys s
abbrev pcW (D : va_G) (tys : List (ClassId × FieldType)) (ws : va_W) (sz : Nat) : State → Prop := fun U => U.heap.size = sz ∧ va_P D classes ws U.heap ∧ va_K D classes tys U ∧ va_D (fun _ => True) ws
abbrev poW (D : va_G) (tys : List (ClassId × FieldType)) (ws : va_W) (A : Nat → Prop) : Unit → State → Prop := fun _ t => va_P D classes ws t.heap ∧ va_K D classes tys t ∧ va_D A ws
theorem fb_pc {av : List Value} {D : va_G} {tys : List (ClassId × FieldType)} {ws : va_W} {sz : Nat} : FrameBlind (va_Pc av (pcW D tys ws sz)) := fun a U g mk q => by
  obtain ⟨q0, q1, qP, qK, qD⟩ := q
  exact ⟨q0, q1, qP, va_K.moved (u := U) (U := U.calling g mk a) (Vm.Alike.refl U.vm) qK, qD⟩
section GO
variable {p : Program} {l : Launch} {e : Env} {R : Room} {s : State} {m : MethodId} {args : Array Value} {below : List Frame} {meth : Method} {c : Code} {H : Heap} {locs : List Loc} {Q : State → Prop} {cc : ByteArray} {nL pc : Nat} {ls : Array Slot} {cells slots : Nat} {D : va_G} {A : Nat → Prop} {own C : String} {idx maxL n b ci : Nat} {y : MethodName} {bytes : ByteArray} {rt : Option FieldType} {rm : Room} {As rest st0 : List Value} {tys tc : List (ClassId × FieldType)} {ws wc wr w1 w2 : va_W} {qc : vw_C} {fs : List Value}
theorem go_back (hP : va_P D classes ws H) (hD : va_D A ws) (hS : va_S A s.heap H locs) (hA : ∀ q : Nat, s.heap.size ≤ q → A q) (isC isR isP : List Nat) (hC : isC.map (fun i => ws[i]?) = wc.map some) (hRs : isR.map (fun i => ws[i]?) = wr.map some) (hnR : va_nd isR = true) (hdis : ∀ i ∈ isR, i ∉ isC) (hp2 : isP.map (fun i => (wr ++ w1)[i]?) = w2.map some) (hnP : va_nd isP = true) {H1 : Heap} (hk : ∀ q : Nat, q < H.size → ¬ va_A wc H.size q → H1[q]? = H[q]?) (hP1 : va_P D classes w1 H1) (hD1 : va_D (va_A wc H.size) w1) : va_P D classes w2 H1 ∧ va_D A w2 := by
  have hF := va_free (wc := wc) hD hS hA isC hC
  obtain ⟨h1, h2⟩ := va_join (wr := wr) (w1 := w1) hP hD isC isR hC hRs hnR hdis hk hF hP1 hD1
  have hD2 := h2.sub isP hnP hp2
  refine ⟨fun k q hq => ?_, hD2⟩
  have hlen : k < w2.length := (List.getElem?_eq_some_iff.mp hq).1
  have h3 : (isP.map (fun i => (wr ++ w1)[i]?))[k]? = some (some q) := by rw [hp2, List.getElem?_map, hq]; rfl
  rw [List.getElem?_map] at h3
  cases h4 : isP[k]? with
  | none => rw [h4] at h3; simp at h3
  | some i => rw [h4] at h3; exact h1 i q (by simpa using h3)
theorem run_V {Qc : Array Value → State → Outcome → State → Prop} (hx : p.tables.exec = Jvm.exec) (hb : c.code = cc) (hml : c.maxLocals = nL) (hown : s.vm.findClass own = some m.cls) (ht : ∀ w ∈ lw_g, w.before args s = true)
    (hM : Met l y (Cond.code y bytes maxL rt :: lw_g) rm (va_Pc (.ref b :: As) (pcW D tc wc H.size)) Qc 0 0 (va_A wc H.size))
    (hG : GoodIn lw_g (wsV own idx C y (Cond.code y bytes maxL rt :: lw_g))) (hrm : rm.cells = 0 ∧ rm.slots = 0)
    (hd : y.cls = C ∧ y.cls ≠ "java/lang/invoke/MethodHandle" ∧ y.cls ≠ "java/lang/invoke/VarHandle" ∧ (parseMethodDescriptor y.desc).map (fun d => d.parameters.length) = some n) (hR : rm.frames + 1 ≤ R.frames ∧ 8 + (maxL + 11) + rm.locals ≤ R.locals)
    (hP : va_P D classes ws H) (hD : va_D A ws) (hK : va_K D classes tys s) (hS : va_S A s.heap H locs) (hA : ∀ q : Nat, s.heap.size ≤ q → A q) (hcs : cells ≤ R.cells ∧ slots ≤ R.slots)
    (isC it : List Nat) (hC : isC.map (fun i => ws[i]?) = wc.map some) (hC1 : isC.filterMap (fun i => ws[i]?) = wc) (hT : it.filterMap (fun i => tys[i]?) = tc) (hnC : va_nd isC = true)
    (q0 : Nat) (he : wc[q0]? = some (b, .inr (ci, fs))) (hcl : classes[ci]? = some qc) (hq : qc.1 = C)
    (hst : st0 = As.reverse ++ .ref b :: rest) (hn : As.length = n) (hls : ls.size = nL) (hW : (rest.map fun v => v.category).sum ≤ 8) (hdg : decode cc pc = .ok (.invokevirtual idx, 3)) :
    va_Run p l e R s m args below meth c H locs cells slots 0 0 (F0 m pc ls st0) rest (Qc (Value.ref b :: As).toArray) (va_A wc H.size) := by
  have hPc : va_P D classes wc H := hP.sub isC hC1
  have hDc : va_D A wc := hD.sub isC hnC hC
  have hKc : va_K D classes tc s := hK.sub it hT
  subst hst
  exact va_runV (As := As) (rest := rest) ⟨hx, hb, hml, hown, ht⟩ hM (cwV n ht hG rfl hrm.1 hrm.2 hd hR) ⟨fb_pc, by rw [← hq]; exact va_recv hKc hPc hcl he, fun U hU hW => ⟨rfl, by rw [hU], by rw [hU]; exact hPc, va_K.moved hW.alike hKc, hDc.weaken (fun _ _ _ _ => trivial)⟩⟩ rfl hn hls rfl (lv_room hW) hdg hcs
theorem go_Vv (hx : p.tables.exec = Jvm.exec) (hb : c.code = cc) (hml : c.maxLocals = nL) (hown : s.vm.findClass own = some m.cls) (ht : ∀ w ∈ lw_g, w.before args s = true)
    (hM : Met l y (Cond.code y bytes maxL rt :: lw_g) rm (va_Pc (.ref b :: As) (pcW D tc wc H.size)) (va_Qv (fun (_ : Unit) => True) (poW D tc w1 (va_A wc H.size)) (va_A wc H.size)) 0 0 (va_A wc H.size))
    (hG : GoodIn lw_g (wsV own idx C y (Cond.code y bytes maxL rt :: lw_g))) (hrm : rm.cells = 0 ∧ rm.slots = 0)
    (hd : y.cls = C ∧ y.cls ≠ "java/lang/invoke/MethodHandle" ∧ y.cls ≠ "java/lang/invoke/VarHandle" ∧ (parseMethodDescriptor y.desc).map (fun d => d.parameters.length) = some n) (hR : rm.frames + 1 ≤ R.frames ∧ 8 + (maxL + 11) + rm.locals ≤ R.locals)
    (hP : va_P D classes ws H) (hD : va_D A ws) (hK : va_K D classes tys s) (hS : va_S A s.heap H locs) (hA : ∀ q : Nat, s.heap.size ≤ q → A q) (hcs : cells ≤ R.cells ∧ slots ≤ R.slots)
    (isC isR it isP : List Nat) (hC : isC.map (fun i => ws[i]?) = wc.map some) (hC1 : isC.filterMap (fun i => ws[i]?) = wc) (hRs : isR.map (fun i => ws[i]?) = wr.map some) (hT : it.filterMap (fun i => tys[i]?) = tc) (hnC : va_nd isC = true) (hnR : va_nd isR = true) (hdis : ∀ i ∈ isR, i ∉ isC) (hp2 : isP.map (fun i => (wr ++ w1)[i]?) = w2.map some) (hnP : va_nd isP = true)
    (q0 : Nat) (he : wc[q0]? = some (b, .inr (ci, fs))) (hcl : classes[ci]? = some qc) (hq : qc.1 = C)
    (hst : st0 = As.reverse ++ .ref b :: rest) (hn : As.length = n) (hls : ls.size = nL) (hW : (rest.map fun v => v.category).sum ≤ 8) (hdg : decode cc pc = .ok (.invokevirtual idx, 3))
    (kk : ∀ (H1 : Heap) (locs1 : List Loc), va_P D classes w2 H1 → va_D A w2 → va_S A s.heap H1 locs1 → W p l e R s m args below meth c H1 locs1 cells slots Q (F0 m (pc + 3) ls (rest))) : W p l e R s m args below meth c H locs cells slots Q (F0 m pc ls st0) := by
  have hF := va_free (wc := wc) hD hS hA isC hC
  refine va_callv (run_V hx hb hml hown ht hM hG hrm hd hR hP hD hK hS hA hcs isC it hC hC1 hT hnC q0 he hcl hq hst hn hls hW hdg) hS (fun q _ h => hF q h) hF (fun u t H1 locs1 e1 hvm hw hB hz hk hS1 => ?_)
  obtain ⟨hP1, hK1, hD1⟩ := hB
  rw [e1] at hP1
  obtain ⟨hP2, hD2⟩ := go_back (w1 := w1) (w2 := w2) (wr := wr) hP hD hS hA isC isR isP hC hRs hnR hdis hp2 hnP hk hP1 hD1
  exact kk H1 locs1 hP2 hD2 hS1
theorem go_Vi {r : Int32} (hx : p.tables.exec = Jvm.exec) (hb : c.code = cc) (hml : c.maxLocals = nL) (hown : s.vm.findClass own = some m.cls) (ht : ∀ w ∈ lw_g, w.before args s = true)
    (hM : Met l y (Cond.code y bytes maxL rt :: lw_g) rm (va_Pc (.ref b :: As) (pcW D tc wc H.size)) (va_Qi (fun (r1 : Int32) (_ : Unit) => r1 = r) (poW D tc w1 (va_A wc H.size)) (va_A wc H.size)) 0 0 (va_A wc H.size))
    (hG : GoodIn lw_g (wsV own idx C y (Cond.code y bytes maxL rt :: lw_g))) (hrm : rm.cells = 0 ∧ rm.slots = 0)
    (hd : y.cls = C ∧ y.cls ≠ "java/lang/invoke/MethodHandle" ∧ y.cls ≠ "java/lang/invoke/VarHandle" ∧ (parseMethodDescriptor y.desc).map (fun d => d.parameters.length) = some n) (hR : rm.frames + 1 ≤ R.frames ∧ 8 + (maxL + 11) + rm.locals ≤ R.locals)
    (hP : va_P D classes ws H) (hD : va_D A ws) (hK : va_K D classes tys s) (hS : va_S A s.heap H locs) (hA : ∀ q : Nat, s.heap.size ≤ q → A q) (hcs : cells ≤ R.cells ∧ slots ≤ R.slots)
    (isC isR it isP : List Nat) (hC : isC.map (fun i => ws[i]?) = wc.map some) (hC1 : isC.filterMap (fun i => ws[i]?) = wc) (hRs : isR.map (fun i => ws[i]?) = wr.map some) (hT : it.filterMap (fun i => tys[i]?) = tc) (hnC : va_nd isC = true) (hnR : va_nd isR = true) (hdis : ∀ i ∈ isR, i ∉ isC) (hp2 : isP.map (fun i => (wr ++ w1)[i]?) = w2.map some) (hnP : va_nd isP = true)
    (q0 : Nat) (he : wc[q0]? = some (b, .inr (ci, fs))) (hcl : classes[ci]? = some qc) (hq : qc.1 = C)
    (hst : st0 = As.reverse ++ .ref b :: rest) (hn : As.length = n) (hls : ls.size = nL) (hW : (rest.map fun v => v.category).sum ≤ 8) (hdg : decode cc pc = .ok (.invokevirtual idx, 3))
    (kk : ∀ (H1 : Heap) (locs1 : List Loc), va_P D classes w2 H1 → va_D A w2 → va_S A s.heap H1 locs1 → W p l e R s m args below meth c H1 locs1 cells slots Q (F0 m (pc + 3) ls (.int r :: rest))) : W p l e R s m args below meth c H locs cells slots Q (F0 m pc ls st0) := by
  have hF := va_free (wc := wc) hD hS hA isC hC
  refine va_calli (run_V hx hb hml hown ht hM hG hrm hd hR hP hD hK hS hA hcs isC it hC hC1 hT hnC q0 he hcl hq hst hn hls hW hdg) hS (fun q _ h => hF q h) hF (fun r1 u t H1 locs1 e1 hvm hw hB hz hk hS1 => ?_)
  subst hw
  obtain ⟨hP1, hK1, hD1⟩ := hB
  rw [e1] at hP1
  obtain ⟨hP2, hD2⟩ := go_back (w1 := w1) (w2 := w2) (wr := wr) hP hD hS hA isC isR isP hC hRs hnR hdis hp2 hnP hk hP1 hD1
  exact kk H1 locs1 hP2 hD2 hS1
theorem go_Vl {r : Int64} (hx : p.tables.exec = Jvm.exec) (hb : c.code = cc) (hml : c.maxLocals = nL) (hown : s.vm.findClass own = some m.cls) (ht : ∀ w ∈ lw_g, w.before args s = true)
    (hM : Met l y (Cond.code y bytes maxL rt :: lw_g) rm (va_Pc (.ref b :: As) (pcW D tc wc H.size)) (va_Ql (fun (r1 : Int64) (_ : Unit) => r1 = r) (poW D tc w1 (va_A wc H.size)) (va_A wc H.size)) 0 0 (va_A wc H.size))
    (hG : GoodIn lw_g (wsV own idx C y (Cond.code y bytes maxL rt :: lw_g))) (hrm : rm.cells = 0 ∧ rm.slots = 0)
    (hd : y.cls = C ∧ y.cls ≠ "java/lang/invoke/MethodHandle" ∧ y.cls ≠ "java/lang/invoke/VarHandle" ∧ (parseMethodDescriptor y.desc).map (fun d => d.parameters.length) = some n) (hR : rm.frames + 1 ≤ R.frames ∧ 8 + (maxL + 11) + rm.locals ≤ R.locals)
    (hP : va_P D classes ws H) (hD : va_D A ws) (hK : va_K D classes tys s) (hS : va_S A s.heap H locs) (hA : ∀ q : Nat, s.heap.size ≤ q → A q) (hcs : cells ≤ R.cells ∧ slots ≤ R.slots)
    (isC isR it isP : List Nat) (hC : isC.map (fun i => ws[i]?) = wc.map some) (hC1 : isC.filterMap (fun i => ws[i]?) = wc) (hRs : isR.map (fun i => ws[i]?) = wr.map some) (hT : it.filterMap (fun i => tys[i]?) = tc) (hnC : va_nd isC = true) (hnR : va_nd isR = true) (hdis : ∀ i ∈ isR, i ∉ isC) (hp2 : isP.map (fun i => (wr ++ w1)[i]?) = w2.map some) (hnP : va_nd isP = true)
    (q0 : Nat) (he : wc[q0]? = some (b, .inr (ci, fs))) (hcl : classes[ci]? = some qc) (hq : qc.1 = C)
    (hst : st0 = As.reverse ++ .ref b :: rest) (hn : As.length = n) (hls : ls.size = nL) (hW : (rest.map fun v => v.category).sum ≤ 8) (hdg : decode cc pc = .ok (.invokevirtual idx, 3))
    (kk : ∀ (H1 : Heap) (locs1 : List Loc), va_P D classes w2 H1 → va_D A w2 → va_S A s.heap H1 locs1 → W p l e R s m args below meth c H1 locs1 cells slots Q (F0 m (pc + 3) ls (.long r :: rest))) : W p l e R s m args below meth c H locs cells slots Q (F0 m pc ls st0) := by
  have hF := va_free (wc := wc) hD hS hA isC hC
  refine va_calll (run_V hx hb hml hown ht hM hG hrm hd hR hP hD hK hS hA hcs isC it hC hC1 hT hnC q0 he hcl hq hst hn hls hW hdg) hS (fun q _ h => hF q h) hF (fun r1 u t H1 locs1 e1 hvm hw hB hz hk hS1 => ?_)
  subst hw
  obtain ⟨hP1, hK1, hD1⟩ := hB
  rw [e1] at hP1
  obtain ⟨hP2, hD2⟩ := go_back (w1 := w1) (w2 := w2) (wr := wr) hP hD hS hA isC isR isP hC hRs hnR hdis hp2 hnP hk hP1 hD1
  exact kk H1 locs1 hP2 hD2 hS1
theorem run_S {Qc : Array Value → State → Outcome → State → Prop} (hx : p.tables.exec = Jvm.exec) (hb : c.code = cc) (hml : c.maxLocals = nL) (hown : s.vm.findClass own = some m.cls) (ht : ∀ w ∈ lw_g, w.before args s = true)
    (hM : Met l y (Cond.code y bytes maxL rt :: lw_g) rm (va_Pc (As) (pcW D tc wc H.size)) Qc 0 0 (va_A wc H.size))
    (hG : GoodIn lw_g (va_wsS own idx y (Cond.code y bytes maxL rt :: lw_g))) (hrm : rm.cells = 0 ∧ rm.slots = 0)
    (hd : y.cls ≠ "java/lang/invoke/MethodHandle" ∧ y.cls ≠ "java/lang/invoke/VarHandle" ∧ (parseMethodDescriptor y.desc).map (fun d => d.parameters.length) = some n) (hR : rm.frames + 1 ≤ R.frames ∧ 8 + (maxL + 11) + rm.locals ≤ R.locals)
    (hP : va_P D classes ws H) (hD : va_D A ws) (hK : va_K D classes tys s) (hS : va_S A s.heap H locs) (hA : ∀ q : Nat, s.heap.size ≤ q → A q) (hcs : cells ≤ R.cells ∧ slots ≤ R.slots)
    (isC it : List Nat) (hC : isC.map (fun i => ws[i]?) = wc.map some) (hC1 : isC.filterMap (fun i => ws[i]?) = wc) (hT : it.filterMap (fun i => tys[i]?) = tc) (hnC : va_nd isC = true)
    (hst : st0 = As.reverse ++ rest) (hn : As.length = n) (hls : ls.size = nL) (hW : (rest.map fun v => v.category).sum ≤ 8) (hdg : decode cc pc = .ok (.invokestatic idx, 3)) :
    va_Run p l e R s m args below meth c H locs cells slots 0 0 (F0 m pc ls st0) rest (Qc As.toArray) (va_A wc H.size) := by
  have hPc : va_P D classes wc H := hP.sub isC hC1
  have hDc : va_D A wc := hD.sub isC hnC hC
  have hKc : va_K D classes tc s := hK.sub it hT
  subst hst
  exact va_runS (As := As) (rest := rest) ⟨hx, hb, hml, hown, ht⟩ hM (va_cwS n ht hG rfl hrm.1 hrm.2 hd hR) ⟨fb_pc, fun U hU hW => ⟨rfl, by rw [hU], by rw [hU]; exact hPc, va_K.moved hW.alike hKc, hDc.weaken (fun _ _ _ _ => trivial)⟩⟩ rfl hn hls rfl (lv_room hW) hdg hcs
theorem go_Sv (hx : p.tables.exec = Jvm.exec) (hb : c.code = cc) (hml : c.maxLocals = nL) (hown : s.vm.findClass own = some m.cls) (ht : ∀ w ∈ lw_g, w.before args s = true)
    (hM : Met l y (Cond.code y bytes maxL rt :: lw_g) rm (va_Pc (As) (pcW D tc wc H.size)) (va_Qv (fun (_ : Unit) => True) (poW D tc w1 (va_A wc H.size)) (va_A wc H.size)) 0 0 (va_A wc H.size))
    (hG : GoodIn lw_g (va_wsS own idx y (Cond.code y bytes maxL rt :: lw_g))) (hrm : rm.cells = 0 ∧ rm.slots = 0)
    (hd : y.cls ≠ "java/lang/invoke/MethodHandle" ∧ y.cls ≠ "java/lang/invoke/VarHandle" ∧ (parseMethodDescriptor y.desc).map (fun d => d.parameters.length) = some n) (hR : rm.frames + 1 ≤ R.frames ∧ 8 + (maxL + 11) + rm.locals ≤ R.locals)
    (hP : va_P D classes ws H) (hD : va_D A ws) (hK : va_K D classes tys s) (hS : va_S A s.heap H locs) (hA : ∀ q : Nat, s.heap.size ≤ q → A q) (hcs : cells ≤ R.cells ∧ slots ≤ R.slots)
    (isC isR it isP : List Nat) (hC : isC.map (fun i => ws[i]?) = wc.map some) (hC1 : isC.filterMap (fun i => ws[i]?) = wc) (hRs : isR.map (fun i => ws[i]?) = wr.map some) (hT : it.filterMap (fun i => tys[i]?) = tc) (hnC : va_nd isC = true) (hnR : va_nd isR = true) (hdis : ∀ i ∈ isR, i ∉ isC) (hp2 : isP.map (fun i => (wr ++ w1)[i]?) = w2.map some) (hnP : va_nd isP = true)
    (hst : st0 = As.reverse ++ rest) (hn : As.length = n) (hls : ls.size = nL) (hW : (rest.map fun v => v.category).sum ≤ 8) (hdg : decode cc pc = .ok (.invokestatic idx, 3))
    (kk : ∀ (H1 : Heap) (locs1 : List Loc), va_P D classes w2 H1 → va_D A w2 → va_S A s.heap H1 locs1 → W p l e R s m args below meth c H1 locs1 cells slots Q (F0 m (pc + 3) ls (rest))) : W p l e R s m args below meth c H locs cells slots Q (F0 m pc ls st0) := by
  have hF := va_free (wc := wc) hD hS hA isC hC
  refine va_callv (run_S hx hb hml hown ht hM hG hrm hd hR hP hD hK hS hA hcs isC it hC hC1 hT hnC hst hn hls hW hdg) hS (fun q _ h => hF q h) hF (fun u t H1 locs1 e1 hvm hw hB hz hk hS1 => ?_)
  obtain ⟨hP1, hK1, hD1⟩ := hB
  rw [e1] at hP1
  obtain ⟨hP2, hD2⟩ := go_back (w1 := w1) (w2 := w2) (wr := wr) hP hD hS hA isC isR isP hC hRs hnR hdis hp2 hnP hk hP1 hD1
  exact kk H1 locs1 hP2 hD2 hS1
theorem go_Si {r : Int32} (hx : p.tables.exec = Jvm.exec) (hb : c.code = cc) (hml : c.maxLocals = nL) (hown : s.vm.findClass own = some m.cls) (ht : ∀ w ∈ lw_g, w.before args s = true)
    (hM : Met l y (Cond.code y bytes maxL rt :: lw_g) rm (va_Pc (As) (pcW D tc wc H.size)) (va_Qi (fun (r1 : Int32) (_ : Unit) => r1 = r) (poW D tc w1 (va_A wc H.size)) (va_A wc H.size)) 0 0 (va_A wc H.size))
    (hG : GoodIn lw_g (va_wsS own idx y (Cond.code y bytes maxL rt :: lw_g))) (hrm : rm.cells = 0 ∧ rm.slots = 0)
    (hd : y.cls ≠ "java/lang/invoke/MethodHandle" ∧ y.cls ≠ "java/lang/invoke/VarHandle" ∧ (parseMethodDescriptor y.desc).map (fun d => d.parameters.length) = some n) (hR : rm.frames + 1 ≤ R.frames ∧ 8 + (maxL + 11) + rm.locals ≤ R.locals)
    (hP : va_P D classes ws H) (hD : va_D A ws) (hK : va_K D classes tys s) (hS : va_S A s.heap H locs) (hA : ∀ q : Nat, s.heap.size ≤ q → A q) (hcs : cells ≤ R.cells ∧ slots ≤ R.slots)
    (isC isR it isP : List Nat) (hC : isC.map (fun i => ws[i]?) = wc.map some) (hC1 : isC.filterMap (fun i => ws[i]?) = wc) (hRs : isR.map (fun i => ws[i]?) = wr.map some) (hT : it.filterMap (fun i => tys[i]?) = tc) (hnC : va_nd isC = true) (hnR : va_nd isR = true) (hdis : ∀ i ∈ isR, i ∉ isC) (hp2 : isP.map (fun i => (wr ++ w1)[i]?) = w2.map some) (hnP : va_nd isP = true)
    (hst : st0 = As.reverse ++ rest) (hn : As.length = n) (hls : ls.size = nL) (hW : (rest.map fun v => v.category).sum ≤ 8) (hdg : decode cc pc = .ok (.invokestatic idx, 3))
    (kk : ∀ (H1 : Heap) (locs1 : List Loc), va_P D classes w2 H1 → va_D A w2 → va_S A s.heap H1 locs1 → W p l e R s m args below meth c H1 locs1 cells slots Q (F0 m (pc + 3) ls (.int r :: rest))) : W p l e R s m args below meth c H locs cells slots Q (F0 m pc ls st0) := by
  have hF := va_free (wc := wc) hD hS hA isC hC
  refine va_calli (run_S hx hb hml hown ht hM hG hrm hd hR hP hD hK hS hA hcs isC it hC hC1 hT hnC hst hn hls hW hdg) hS (fun q _ h => hF q h) hF (fun r1 u t H1 locs1 e1 hvm hw hB hz hk hS1 => ?_)
  subst hw
  obtain ⟨hP1, hK1, hD1⟩ := hB
  rw [e1] at hP1
  obtain ⟨hP2, hD2⟩ := go_back (w1 := w1) (w2 := w2) (wr := wr) hP hD hS hA isC isR isP hC hRs hnR hdis hp2 hnP hk hP1 hD1
  exact kk H1 locs1 hP2 hD2 hS1
theorem go_Sl {r : Int64} (hx : p.tables.exec = Jvm.exec) (hb : c.code = cc) (hml : c.maxLocals = nL) (hown : s.vm.findClass own = some m.cls) (ht : ∀ w ∈ lw_g, w.before args s = true)
    (hM : Met l y (Cond.code y bytes maxL rt :: lw_g) rm (va_Pc (As) (pcW D tc wc H.size)) (va_Ql (fun (r1 : Int64) (_ : Unit) => r1 = r) (poW D tc w1 (va_A wc H.size)) (va_A wc H.size)) 0 0 (va_A wc H.size))
    (hG : GoodIn lw_g (va_wsS own idx y (Cond.code y bytes maxL rt :: lw_g))) (hrm : rm.cells = 0 ∧ rm.slots = 0)
    (hd : y.cls ≠ "java/lang/invoke/MethodHandle" ∧ y.cls ≠ "java/lang/invoke/VarHandle" ∧ (parseMethodDescriptor y.desc).map (fun d => d.parameters.length) = some n) (hR : rm.frames + 1 ≤ R.frames ∧ 8 + (maxL + 11) + rm.locals ≤ R.locals)
    (hP : va_P D classes ws H) (hD : va_D A ws) (hK : va_K D classes tys s) (hS : va_S A s.heap H locs) (hA : ∀ q : Nat, s.heap.size ≤ q → A q) (hcs : cells ≤ R.cells ∧ slots ≤ R.slots)
    (isC isR it isP : List Nat) (hC : isC.map (fun i => ws[i]?) = wc.map some) (hC1 : isC.filterMap (fun i => ws[i]?) = wc) (hRs : isR.map (fun i => ws[i]?) = wr.map some) (hT : it.filterMap (fun i => tys[i]?) = tc) (hnC : va_nd isC = true) (hnR : va_nd isR = true) (hdis : ∀ i ∈ isR, i ∉ isC) (hp2 : isP.map (fun i => (wr ++ w1)[i]?) = w2.map some) (hnP : va_nd isP = true)
    (hst : st0 = As.reverse ++ rest) (hn : As.length = n) (hls : ls.size = nL) (hW : (rest.map fun v => v.category).sum ≤ 8) (hdg : decode cc pc = .ok (.invokestatic idx, 3))
    (kk : ∀ (H1 : Heap) (locs1 : List Loc), va_P D classes w2 H1 → va_D A w2 → va_S A s.heap H1 locs1 → W p l e R s m args below meth c H1 locs1 cells slots Q (F0 m (pc + 3) ls (.long r :: rest))) : W p l e R s m args below meth c H locs cells slots Q (F0 m pc ls st0) := by
  have hF := va_free (wc := wc) hD hS hA isC hC
  refine va_calll (run_S hx hb hml hown ht hM hG hrm hd hR hP hD hK hS hA hcs isC it hC hC1 hT hnC hst hn hls hW hdg) hS (fun q _ h => hF q h) hF (fun r1 u t H1 locs1 e1 hvm hw hB hz hk hS1 => ?_)
  subst hw
  obtain ⟨hP1, hK1, hD1⟩ := hB
  rw [e1] at hP1
  obtain ⟨hP2, hD2⟩ := go_back (w1 := w1) (w2 := w2) (wr := wr) hP hD hS hA isC isR isP hC hRs hnR hdis hp2 hnP hk hP1 hD1
  exact kk H1 locs1 hP2 hD2 hS1
end GO
