def rm_W_init : Room := { frames := 1, cells := 2, slots := 140, locals := 12 }
set_option maxHeartbeats 4000000 in
set_option maxRecDepth 100000 in
theorem c_W_init (l : Launch) (D : va_G) (q sz : Nat) : Met l y_W_init (Cond.code y_W_init b_W_init 1 none :: lw_g) rm_W_init (va_Pc [.ref q] (pcW D [] [(q, .inr (1, [.null, .null]))] sz)) (va_Qv (fun (u : Nat × Nat × ClassId × ClassId) => True) (fun u t => va_P D classes [(q, .inr (1, [.ref u.1, .ref u.2.1])), (u.1, .inl (u.2.2.1, 40, .inl (fun _ => 0))), (u.2.1, .inl (u.2.2.2, 100, .inl (fun _ => 0)))] t.heap ∧ va_K D classes [(u.2.2.1, .int), (u.2.2.2, .int)] t ∧ va_D (va_A [(q, .inr (1, [.null, .null]))] sz) [(q, .inr (1, [.ref u.1, .ref u.2.1])), (u.1, .inl (u.2.2.1, 40, .inl (fun _ => 0))), (u.2.1, .inl (u.2.2.2, 100, .inl (fun _ => 0)))]) (va_A [(q, .inr (1, [.null, .null]))] sz)) 2 140 (va_A [(q, .inr (1, [.null, .null]))] sz) := by
  refine Met.ofW (cc := b_W_init) (maxL := 1) (ret := none) (by decide) rfl ?_
  intro p e s m args below meth c s₁ B hml hv
  obtain ⟨rfl, hsz, hP, hK, hD0⟩ := hv
  have hx := B.exec
  have hb := B.bytes
  have hr := B.returns
  have hts := atoms_spec (ws := Cond.code y_W_init b_W_init 1 none :: lw_g) B.pre
  have ht : ∀ w ∈ lw_g, w.before [Value.ref q].toArray s = true := fun w hw => hts w (List.mem_cons_of_mem _ hw)
  have hown : s.vm.findClass R_W = some m.cls := findClass_of_methodNamed B.named
  have hlk := B.notSynchronized
  have hin : meth.name = "<init>" := (name_of_methodNamed B.named B.method).1
  subst hsz
  have hD := hD0.self (sz := s.heap.size)
  generalize hAe : va_A [(q, .inr (1, [.null, .null]))] s.heap.size = A at hD ⊢
  have hA : ∀ q : Nat, s.heap.size ≤ q → A q := fun q h => by rw [← hAe]; exact Or.inr h
  have hS : va_S A s.heap s.heap [] := va_S.rf
  have hl := lv_entry ([.ref q]) (n := 1) (Nat.le_of_ble_eq_true rfl)
  rw [lg_entry_eq]
  generalize (lg_sl ([.ref q]) ++ List.replicate (1 - (lg_sl ([.ref q])).length) Slot.unset).toArray = ls at hl ⊢
  have hl : lv_has ls 1 [(0, .ref q)] := hl
  have hP : va_P D classes [(q, .inr (1, [.null, .null]))] s.heap := hP
  refine lv_aload_n hx hb d_W_init_0 rfl (lv_at hl 0 rfl) ?_
  refine W.objInit hx hb hown (ht _ ix_242) (ht _ ix_243) (ht _ ix_244) rfl (by rw [hml]; exact hl.1) rfl d_W_init_1 (Nat.le_of_ble_eq_true rfl) (Nat.le_of_ble_eq_true rfl) ?_
  refine W.eq (g2 := F0 m 4 ls []) rfl ?_
  refine lv_aload_n hx hb d_W_init_4 rfl (lv_at hl 0 rfl) ?_
  refine lv_bipush (v := 40) hx hb d_W_init_5 (by decide) ?_
  refine va_newa (atype := .int) (ty := .int) (N' := 40) (a0 := (40, .inl (fun _ => 0))) hx hb (ht _ ix_245) rfl hK hP hD hS hA (fun cA => rfl) (by decide) rfl (by decide) (Nat.le_of_ble_eq_true rfl) (Nat.le_of_ble_eq_true rfl) d_W_init_7 (fun q7 k7 H hK hP hD hS => ?_)
  have hP : va_P D classes [(q, .inr (1, [.null, .null])), (q7, .inl (k7, 40, .inl (fun _ => 0)))] H := hP
  have hD : va_D A [(q, .inr (1, [.null, .null])), (q7, .inl (k7, 40, .inl (fun _ => 0)))] := hD
  have hK : va_K D classes [(k7, .int)] s := hK
  refine W.widen (k := 1) (n := 40) (Nat.le_refl _) (Nat.le_refl _) ?_
  refine va_putF (D := D) (ci := 1) (v := .ref q7) (ty := (.array .int)) (C := R_W) (T := F_W) (N := 2) hx hb ht iC_W t_W t_W_ok n_W hown hK hP hD hS 0 rfl rfl 0 (by decide) (ht _ ix_7) (fun _ h9 => h9) rfl hin rfl (by decide +kernel) rfl rfl (Nat.le_of_ble_eq_true rfl) d_W_init_9 (fun H locs hP hD hS => ?_)
  have hP : va_P D classes [(q, .inr (1, [.ref q7, .null])), (q7, .inl (k7, 40, .inl (fun _ => 0)))] H := hP
  have hD : va_D A [(q, .inr (1, [.ref q7, .null])), (q7, .inl (k7, 40, .inl (fun _ => 0)))] := hD
  refine lv_aload_n hx hb d_W_init_12 rfl (lv_at hl 0 rfl) ?_
  refine lv_bipush (v := 100) hx hb d_W_init_13 (by decide) ?_
  refine va_newa (atype := .int) (ty := .int) (N' := 100) (a0 := (100, .inl (fun _ => 0))) hx hb (ht _ ix_245) rfl hK hP hD hS hA (fun cA => rfl) (by decide) rfl (by decide) (Nat.le_of_ble_eq_true rfl) (Nat.le_of_ble_eq_true rfl) d_W_init_15 (fun q15 k15 H hK hP hD hS => ?_)
  have hP : va_P D classes [(q, .inr (1, [.ref q7, .null])), (q7, .inl (k7, 40, .inl (fun _ => 0))), (q15, .inl (k15, 100, .inl (fun _ => 0)))] H := hP
  have hD : va_D A [(q, .inr (1, [.ref q7, .null])), (q7, .inl (k7, 40, .inl (fun _ => 0))), (q15, .inl (k15, 100, .inl (fun _ => 0)))] := hD
  have hK : va_K D classes [(k7, .int), (k15, .int)] s := hK
  refine W.widen (k := 2) (n := 140) (Nat.le_refl _) (Nat.le_refl _) ?_
  refine va_putF (D := D) (ci := 1) (v := .ref q15) (ty := (.array .int)) (C := R_W) (T := F_W) (N := 2) hx hb ht iC_W t_W t_W_ok n_W hown hK hP hD hS 0 rfl rfl 1 (by decide) (ht _ ix_17) (fun _ h9 => h9) rfl hin rfl (by decide +kernel) rfl rfl (Nat.le_of_ble_eq_true rfl) d_W_init_17 (fun H locs hP hD hS => ?_)
  have hP : va_P D classes [(q, .inr (1, [.ref q7, .ref q15])), (q7, .inl (k7, 40, .inl (fun _ => 0))), (q15, .inl (k15, 100, .inl (fun _ => 0)))] H := hP
  have hD : va_D A [(q, .inr (1, [.ref q7, .ref q15])), (q7, .inl (k7, 40, .inl (fun _ => 0))), (q15, .inl (k15, 100, .inl (fun _ => 0)))] := hD
  exact W.vret hx hb hr (fun t ht hW => ⟨⟨(q7, q15, k7, k15), rfl, trivial, by rw [ht]; exact hP, va_K.moved hW.alike hK, hD⟩, hS.F ht⟩) hS.2.2 d_W_init_20 hlk
def rm_P_init : Room := { frames := 1, cells := 2, slots := 266, locals := 12 }
set_option maxHeartbeats 4000000 in
set_option maxRecDepth 100000 in
theorem c_P_init (l : Launch) (D : va_G) (q sz : Nat) : Met l y_P_init (Cond.code y_P_init b_P_init 1 none :: lw_g) rm_P_init (va_Pc [.ref q] (pcW D [] [(q, .inr (2, [.null, .null]))] sz)) (va_Qv (fun (u : Nat × Nat × ClassId) => True) (fun u t => va_P D classes [(q, .inr (2, [.ref u.1, .ref u.2.1])), (u.1, .inl (u.2.2, 133, .inr (.inl (fun _ => 0)))), (u.2.1, .inl (u.2.2, 133, .inr (.inl (fun _ => 0))))] t.heap ∧ va_K D classes [(u.2.2, .long)] t ∧ va_D (va_A [(q, .inr (2, [.null, .null]))] sz) [(q, .inr (2, [.ref u.1, .ref u.2.1])), (u.1, .inl (u.2.2, 133, .inr (.inl (fun _ => 0)))), (u.2.1, .inl (u.2.2, 133, .inr (.inl (fun _ => 0))))]) (va_A [(q, .inr (2, [.null, .null]))] sz)) 2 266 (va_A [(q, .inr (2, [.null, .null]))] sz) := by
  refine Met.ofW (cc := b_P_init) (maxL := 1) (ret := none) (by decide) rfl ?_
  intro p e s m args below meth c s₁ B hml hv
  obtain ⟨rfl, hsz, hP, hK, hD0⟩ := hv
  have hx := B.exec
  have hb := B.bytes
  have hr := B.returns
  have hts := atoms_spec (ws := Cond.code y_P_init b_P_init 1 none :: lw_g) B.pre
  have ht : ∀ w ∈ lw_g, w.before [Value.ref q].toArray s = true := fun w hw => hts w (List.mem_cons_of_mem _ hw)
  have hown : s.vm.findClass R_P = some m.cls := findClass_of_methodNamed B.named
  have hlk := B.notSynchronized
  have hin : meth.name = "<init>" := (name_of_methodNamed B.named B.method).1
  subst hsz
  have hD := hD0.self (sz := s.heap.size)
  generalize hAe : va_A [(q, .inr (2, [.null, .null]))] s.heap.size = A at hD ⊢
  have hA : ∀ q : Nat, s.heap.size ≤ q → A q := fun q h => by rw [← hAe]; exact Or.inr h
  have hS : va_S A s.heap s.heap [] := va_S.rf
  have hl := lv_entry ([.ref q]) (n := 1) (Nat.le_of_ble_eq_true rfl)
  rw [lg_entry_eq]
  generalize (lg_sl ([.ref q]) ++ List.replicate (1 - (lg_sl ([.ref q])).length) Slot.unset).toArray = ls at hl ⊢
  have hl : lv_has ls 1 [(0, .ref q)] := hl
  have hP : va_P D classes [(q, .inr (2, [.null, .null]))] s.heap := hP
  refine lv_aload_n hx hb d_P_init_0 rfl (lv_at hl 0 rfl) ?_
  refine W.objInit hx hb hown (ht _ ix_246) (ht _ ix_243) (ht _ ix_244) rfl (by rw [hml]; exact hl.1) rfl d_P_init_1 (Nat.le_of_ble_eq_true rfl) (Nat.le_of_ble_eq_true rfl) ?_
  refine W.eq (g2 := F0 m 4 ls []) rfl ?_
  refine lv_aload_n hx hb d_P_init_4 rfl (lv_at hl 0 rfl) ?_
  refine lv_sipush (v := 133) hx hb d_P_init_5 (by decide) ?_
  refine va_newa (atype := .long) (ty := .long) (N' := 133) (a0 := (133, .inr (.inl (fun _ => 0)))) hx hb (ht _ ix_247) rfl hK hP hD hS hA (fun cA => rfl) (by decide) rfl (by decide) (Nat.le_of_ble_eq_true rfl) (Nat.le_of_ble_eq_true rfl) d_P_init_8 (fun q8 k8 H hK hP hD hS => ?_)
  have hP : va_P D classes [(q, .inr (2, [.null, .null])), (q8, .inl (k8, 133, .inr (.inl (fun _ => 0))))] H := hP
  have hD : va_D A [(q, .inr (2, [.null, .null])), (q8, .inl (k8, 133, .inr (.inl (fun _ => 0))))] := hD
  have hK : va_K D classes [(k8, .long)] s := hK
  refine W.widen (k := 1) (n := 133) (Nat.le_refl _) (Nat.le_refl _) ?_
  refine va_put (D := D) (ci := 2) (v := .ref q8) (ty := (.array .long)) (C := R_P) (T := F_P) (N := 2) hx hb ht iC_P t_P t_P_ok n_P hown hK hP hD hS 0 rfl rfl 0 (by decide) (ht _ ix_22) (fun _ h9 => h9) rfl (by decide +kernel) rfl rfl (Nat.le_of_ble_eq_true rfl) d_P_init_10 (fun H locs hP hD hS => ?_)
  have hP : va_P D classes [(q, .inr (2, [.ref q8, .null])), (q8, .inl (k8, 133, .inr (.inl (fun _ => 0))))] H := hP
  have hD : va_D A [(q, .inr (2, [.ref q8, .null])), (q8, .inl (k8, 133, .inr (.inl (fun _ => 0))))] := hD
  refine lv_aload_n hx hb d_P_init_13 rfl (lv_at hl 0 rfl) ?_
  refine lv_sipush (v := 133) hx hb d_P_init_14 (by decide) ?_
  refine va_newa (atype := .long) (ty := .long) (N' := 133) (a0 := (133, .inr (.inl (fun _ => 0)))) hx hb (ht _ ix_247) rfl hK hP hD hS hA (fun cA => rfl) (by decide) rfl (by decide) (Nat.le_of_ble_eq_true rfl) (Nat.le_of_ble_eq_true rfl) d_P_init_17 (fun q17 k17 H hK hP hD hS => ?_)
  have hP : va_P D classes [(q, .inr (2, [.ref q8, .null])), (q8, .inl (k8, 133, .inr (.inl (fun _ => 0)))), (q17, .inl (k17, 133, .inr (.inl (fun _ => 0))))] H := hP
  have hD : va_D A [(q, .inr (2, [.ref q8, .null])), (q8, .inl (k8, 133, .inr (.inl (fun _ => 0)))), (q17, .inl (k17, 133, .inr (.inl (fun _ => 0))))] := hD
  have hK : va_K D classes [(k8, .long), (k17, .long)] s := hK
  refine W.widen (k := 2) (n := 266) (Nat.le_refl _) (Nat.le_refl _) ?_
  refine va_put (D := D) (ci := 2) (v := .ref q17) (ty := (.array .long)) (C := R_P) (T := F_P) (N := 2) hx hb ht iC_P t_P t_P_ok n_P hown hK hP hD hS 0 rfl rfl 1 (by decide) (ht _ ix_28) (fun _ h9 => h9) rfl (by decide +kernel) rfl rfl (Nat.le_of_ble_eq_true rfl) d_P_init_19 (fun H locs hP hD hS => ?_)
  have hP : va_P D classes [(q, .inr (2, [.ref q8, .ref q17])), (q8, .inl (k8, 133, .inr (.inl (fun _ => 0)))), (q17, .inl (k17, 133, .inr (.inl (fun _ => 0))))] H := hP
  have hD : va_D A [(q, .inr (2, [.ref q8, .ref q17])), (q8, .inl (k8, 133, .inr (.inl (fun _ => 0)))), (q17, .inl (k17, 133, .inr (.inl (fun _ => 0))))] := hD
  obtain rfl : k8 = k17 := Option.some.inj ((show s.vm.findClass _ = some k8 from (hK.2 0 _ rfl).2).symm.trans (show s.vm.findClass _ = some k17 from (hK.2 1 _ rfl).2))
  have hK := hK.sub (tys' := [(k8, .long)]) [0] rfl
  exact W.vret hx hb hr (fun t ht hW => ⟨⟨(q8, q17, k8), rfl, trivial, by rw [ht]; exact hP, va_K.moved hW.alike hK, hD⟩, hS.F ht⟩) hS.2.2 d_P_init_22 hlk
def rm_M_init : Room := { frames := 1, cells := 9, slots := 1116, locals := 12 }
set_option maxHeartbeats 4000000 in
set_option maxRecDepth 100000 in
theorem c_M_init (l : Launch) (D : va_G) (q sz : Nat) : Met l y_M_init (Cond.code y_M_init b_M_init 1 none :: lw_g) rm_M_init (va_Pc [.ref q] (pcW D [] [(q, .inr (3, [.int 0, .int 0, .int 0, .null, .null, .null, .null, .null, .int 0, .null, .null, .null, .null]))] sz)) (va_Qv (fun (u : (Nat → Nat) × (Nat → ClassId)) => u.1 20 = q) (fun u t => va_P D classes (wM u.1 u.2 0 0 0 (fun _ => 0) (fun _ => 0) (fun _ => 0) (fun _ => 0) (fun _ => 0) 0 (fun _ => 0) (fun _ => 0) (fun _ => 0) (fun _ => 0)) t.heap ∧ va_K D classes [(u.2 21, .int), (u.2 22, .int), (u.2 23, .int), (u.2 24, .boolean), (u.2 25, .boolean), (u.2 26, .long), (u.2 27, .int), (u.2 28, .long), (u.2 29, .int)] t ∧ va_D (va_A [(q, .inr (3, [.int 0, .int 0, .int 0, .null, .null, .null, .null, .null, .int 0, .null, .null, .null, .null]))] sz) (wM u.1 u.2 0 0 0 (fun _ => 0) (fun _ => 0) (fun _ => 0) (fun _ => 0) (fun _ => 0) 0 (fun _ => 0) (fun _ => 0) (fun _ => 0) (fun _ => 0))) (va_A [(q, .inr (3, [.int 0, .int 0, .int 0, .null, .null, .null, .null, .null, .int 0, .null, .null, .null, .null]))] sz)) 9 1116 (va_A [(q, .inr (3, [.int 0, .int 0, .int 0, .null, .null, .null, .null, .null, .int 0, .null, .null, .null, .null]))] sz) := by
  refine Met.ofW (cc := b_M_init) (maxL := 1) (ret := none) (by decide) rfl ?_
  intro p e s m args below meth c s₁ B hml hv
  obtain ⟨rfl, hsz, hP, hK, hD0⟩ := hv
  have hx := B.exec
  have hb := B.bytes
  have hr := B.returns
  have hts := atoms_spec (ws := Cond.code y_M_init b_M_init 1 none :: lw_g) B.pre
  have ht : ∀ w ∈ lw_g, w.before [Value.ref q].toArray s = true := fun w hw => hts w (List.mem_cons_of_mem _ hw)
  have hown : s.vm.findClass R_M = some m.cls := findClass_of_methodNamed B.named
  have hlk := B.notSynchronized
  have hin : meth.name = "<init>" := (name_of_methodNamed B.named B.method).1
  subst hsz
  have hD := hD0.self (sz := s.heap.size)
  generalize hAe : va_A [(q, .inr (3, [.int 0, .int 0, .int 0, .null, .null, .null, .null, .null, .int 0, .null, .null, .null, .null]))] s.heap.size = A at hD ⊢
  have hA : ∀ q : Nat, s.heap.size ≤ q → A q := fun q h => by rw [← hAe]; exact Or.inr h
  have hS : va_S A s.heap s.heap [] := va_S.rf
  have hl := lv_entry ([.ref q]) (n := 1) (Nat.le_of_ble_eq_true rfl)
  rw [lg_entry_eq]
  generalize (lg_sl ([.ref q]) ++ List.replicate (1 - (lg_sl ([.ref q])).length) Slot.unset).toArray = ls at hl ⊢
  have hl : lv_has ls 1 [(0, .ref q)] := hl
  have hP : va_P D classes [(q, .inr (3, [.int 0, .int 0, .int 0, .null, .null, .null, .null, .null, .int 0, .null, .null, .null, .null]))] s.heap := hP
  refine lv_aload_n hx hb d_M_init_0 rfl (lv_at hl 0 rfl) ?_
  refine W.objInit hx hb hown (ht _ ix_248) (ht _ ix_243) (ht _ ix_244) rfl (by rw [hml]; exact hl.1) rfl d_M_init_1 (Nat.le_of_ble_eq_true rfl) (Nat.le_of_ble_eq_true rfl) ?_
  refine W.eq (g2 := F0 m 4 ls []) rfl ?_
  refine lv_aload_n hx hb d_M_init_4 rfl (lv_at hl 0 rfl) ?_
  refine lv_bipush (v := 10) hx hb d_M_init_5 (by decide) ?_
  refine va_newa (atype := .int) (ty := .int) (N' := 10) (a0 := (10, .inl (fun _ => 0))) hx hb (ht _ ix_245) rfl hK hP hD hS hA (fun cA => rfl) (by decide) rfl (by decide) (Nat.le_of_ble_eq_true rfl) (Nat.le_of_ble_eq_true rfl) d_M_init_7 (fun q7 k7 H hK hP hD hS => ?_)
  have hP : va_P D classes [(q, .inr (3, [.int 0, .int 0, .int 0, .null, .null, .null, .null, .null, .int 0, .null, .null, .null, .null])), (q7, .inl (k7, 10, .inl (fun _ => 0)))] H := hP
  have hD : va_D A [(q, .inr (3, [.int 0, .int 0, .int 0, .null, .null, .null, .null, .null, .int 0, .null, .null, .null, .null])), (q7, .inl (k7, 10, .inl (fun _ => 0)))] := hD
  have hK : va_K D classes [(k7, .int)] s := hK
  refine W.widen (k := 1) (n := 10) (Nat.le_refl _) (Nat.le_refl _) ?_
  refine va_putF (D := D) (ci := 3) (v := .ref q7) (ty := (.array .int)) (C := R_M) (T := F_M) (N := 13) hx hb ht iC_M t_M t_M_ok n_M hown hK hP hD hS 0 rfl rfl 3 (by decide) (ht _ ix_199) (fun _ h9 => h9) rfl hin rfl (by decide +kernel) rfl rfl (Nat.le_of_ble_eq_true rfl) d_M_init_9 (fun H locs hP hD hS => ?_)
  have hP : va_P D classes [(q, .inr (3, [.int 0, .int 0, .int 0, .ref q7, .null, .null, .null, .null, .int 0, .null, .null, .null, .null])), (q7, .inl (k7, 10, .inl (fun _ => 0)))] H := hP
  have hD : va_D A [(q, .inr (3, [.int 0, .int 0, .int 0, .ref q7, .null, .null, .null, .null, .int 0, .null, .null, .null, .null])), (q7, .inl (k7, 10, .inl (fun _ => 0)))] := hD
  refine lv_aload_n hx hb d_M_init_12 rfl (lv_at hl 0 rfl) ?_
  refine lv_bipush (v := 40) hx hb d_M_init_13 (by decide) ?_
  refine va_newa (atype := .int) (ty := .int) (N' := 40) (a0 := (40, .inl (fun _ => 0))) hx hb (ht _ ix_245) rfl hK hP hD hS hA (fun cA => rfl) (by decide) rfl (by decide) (Nat.le_of_ble_eq_true rfl) (Nat.le_of_ble_eq_true rfl) d_M_init_15 (fun q15 k15 H hK hP hD hS => ?_)
  have hP : va_P D classes [(q, .inr (3, [.int 0, .int 0, .int 0, .ref q7, .null, .null, .null, .null, .int 0, .null, .null, .null, .null])), (q7, .inl (k7, 10, .inl (fun _ => 0))), (q15, .inl (k15, 40, .inl (fun _ => 0)))] H := hP
  have hD : va_D A [(q, .inr (3, [.int 0, .int 0, .int 0, .ref q7, .null, .null, .null, .null, .int 0, .null, .null, .null, .null])), (q7, .inl (k7, 10, .inl (fun _ => 0))), (q15, .inl (k15, 40, .inl (fun _ => 0)))] := hD
  have hK : va_K D classes [(k7, .int), (k15, .int)] s := hK
  refine W.widen (k := 2) (n := 50) (Nat.le_refl _) (Nat.le_refl _) ?_
  refine va_putF (D := D) (ci := 3) (v := .ref q15) (ty := (.array .int)) (C := R_M) (T := F_M) (N := 13) hx hb ht iC_M t_M t_M_ok n_M hown hK hP hD hS 0 rfl rfl 4 (by decide) (ht _ ix_164) (fun _ h9 => h9) rfl hin rfl (by decide +kernel) rfl rfl (Nat.le_of_ble_eq_true rfl) d_M_init_17 (fun H locs hP hD hS => ?_)
  have hP : va_P D classes [(q, .inr (3, [.int 0, .int 0, .int 0, .ref q7, .ref q15, .null, .null, .null, .int 0, .null, .null, .null, .null])), (q7, .inl (k7, 10, .inl (fun _ => 0))), (q15, .inl (k15, 40, .inl (fun _ => 0)))] H := hP
  have hD : va_D A [(q, .inr (3, [.int 0, .int 0, .int 0, .ref q7, .ref q15, .null, .null, .null, .int 0, .null, .null, .null, .null])), (q7, .inl (k7, 10, .inl (fun _ => 0))), (q15, .inl (k15, 40, .inl (fun _ => 0)))] := hD
  refine lv_aload_n hx hb d_M_init_20 rfl (lv_at hl 0 rfl) ?_
  refine lv_bipush (v := 40) hx hb d_M_init_21 (by decide) ?_
  refine va_newa (atype := .int) (ty := .int) (N' := 40) (a0 := (40, .inl (fun _ => 0))) hx hb (ht _ ix_245) rfl hK hP hD hS hA (fun cA => rfl) (by decide) rfl (by decide) (Nat.le_of_ble_eq_true rfl) (Nat.le_of_ble_eq_true rfl) d_M_init_23 (fun q23 k23 H hK hP hD hS => ?_)
  have hP : va_P D classes [(q, .inr (3, [.int 0, .int 0, .int 0, .ref q7, .ref q15, .null, .null, .null, .int 0, .null, .null, .null, .null])), (q7, .inl (k7, 10, .inl (fun _ => 0))), (q15, .inl (k15, 40, .inl (fun _ => 0))), (q23, .inl (k23, 40, .inl (fun _ => 0)))] H := hP
  have hD : va_D A [(q, .inr (3, [.int 0, .int 0, .int 0, .ref q7, .ref q15, .null, .null, .null, .int 0, .null, .null, .null, .null])), (q7, .inl (k7, 10, .inl (fun _ => 0))), (q15, .inl (k15, 40, .inl (fun _ => 0))), (q23, .inl (k23, 40, .inl (fun _ => 0)))] := hD
  have hK : va_K D classes [(k7, .int), (k15, .int), (k23, .int)] s := hK
  refine W.widen (k := 3) (n := 90) (Nat.le_refl _) (Nat.le_refl _) ?_
  refine va_putF (D := D) (ci := 3) (v := .ref q23) (ty := (.array .int)) (C := R_M) (T := F_M) (N := 13) hx hb ht iC_M t_M t_M_ok n_M hown hK hP hD hS 0 rfl rfl 5 (by decide) (ht _ ix_170) (fun _ h9 => h9) rfl hin rfl (by decide +kernel) rfl rfl (Nat.le_of_ble_eq_true rfl) d_M_init_25 (fun H locs hP hD hS => ?_)
  have hP : va_P D classes [(q, .inr (3, [.int 0, .int 0, .int 0, .ref q7, .ref q15, .ref q23, .null, .null, .int 0, .null, .null, .null, .null])), (q7, .inl (k7, 10, .inl (fun _ => 0))), (q15, .inl (k15, 40, .inl (fun _ => 0))), (q23, .inl (k23, 40, .inl (fun _ => 0)))] H := hP
  have hD : va_D A [(q, .inr (3, [.int 0, .int 0, .int 0, .ref q7, .ref q15, .ref q23, .null, .null, .int 0, .null, .null, .null, .null])), (q7, .inl (k7, 10, .inl (fun _ => 0))), (q15, .inl (k15, 40, .inl (fun _ => 0))), (q23, .inl (k23, 40, .inl (fun _ => 0)))] := hD
  refine lv_aload_n hx hb d_M_init_28 rfl (lv_at hl 0 rfl) ?_
  refine lv_bipush (v := 40) hx hb d_M_init_29 (by decide) ?_
  refine va_newa (atype := .boolean) (ty := .boolean) (N' := 40) (a0 := (40, .inl (fun _ => 0))) hx hb (ht _ ix_249) rfl hK hP hD hS hA (fun cA => rfl) (by decide) rfl (by decide) (Nat.le_of_ble_eq_true rfl) (Nat.le_of_ble_eq_true rfl) d_M_init_31 (fun q31 k31 H hK hP hD hS => ?_)
  have hP : va_P D classes [(q, .inr (3, [.int 0, .int 0, .int 0, .ref q7, .ref q15, .ref q23, .null, .null, .int 0, .null, .null, .null, .null])), (q7, .inl (k7, 10, .inl (fun _ => 0))), (q15, .inl (k15, 40, .inl (fun _ => 0))), (q23, .inl (k23, 40, .inl (fun _ => 0))), (q31, .inl (k31, 40, .inl (fun _ => 0)))] H := hP
  have hD : va_D A [(q, .inr (3, [.int 0, .int 0, .int 0, .ref q7, .ref q15, .ref q23, .null, .null, .int 0, .null, .null, .null, .null])), (q7, .inl (k7, 10, .inl (fun _ => 0))), (q15, .inl (k15, 40, .inl (fun _ => 0))), (q23, .inl (k23, 40, .inl (fun _ => 0))), (q31, .inl (k31, 40, .inl (fun _ => 0)))] := hD
  have hK : va_K D classes [(k7, .int), (k15, .int), (k23, .int), (k31, .boolean)] s := hK
  refine W.widen (k := 4) (n := 130) (Nat.le_refl _) (Nat.le_refl _) ?_
  refine va_putF (D := D) (ci := 3) (v := .ref q31) (ty := (.array .boolean)) (C := R_M) (T := F_M) (N := 13) hx hb ht iC_M t_M t_M_ok n_M hown hK hP hD hS 0 rfl rfl 6 (by decide) (ht _ ix_172) (fun _ h9 => h9) rfl hin rfl (by decide +kernel) rfl rfl (Nat.le_of_ble_eq_true rfl) d_M_init_33 (fun H locs hP hD hS => ?_)
  have hP : va_P D classes [(q, .inr (3, [.int 0, .int 0, .int 0, .ref q7, .ref q15, .ref q23, .ref q31, .null, .int 0, .null, .null, .null, .null])), (q7, .inl (k7, 10, .inl (fun _ => 0))), (q15, .inl (k15, 40, .inl (fun _ => 0))), (q23, .inl (k23, 40, .inl (fun _ => 0))), (q31, .inl (k31, 40, .inl (fun _ => 0)))] H := hP
  have hD : va_D A [(q, .inr (3, [.int 0, .int 0, .int 0, .ref q7, .ref q15, .ref q23, .ref q31, .null, .int 0, .null, .null, .null, .null])), (q7, .inl (k7, 10, .inl (fun _ => 0))), (q15, .inl (k15, 40, .inl (fun _ => 0))), (q23, .inl (k23, 40, .inl (fun _ => 0))), (q31, .inl (k31, 40, .inl (fun _ => 0)))] := hD
  refine lv_aload_n hx hb d_M_init_36 rfl (lv_at hl 0 rfl) ?_
  refine lv_bipush (v := 10) hx hb d_M_init_37 (by decide) ?_
  refine va_newa (atype := .boolean) (ty := .boolean) (N' := 10) (a0 := (10, .inl (fun _ => 0))) hx hb (ht _ ix_249) rfl hK hP hD hS hA (fun cA => rfl) (by decide) rfl (by decide) (Nat.le_of_ble_eq_true rfl) (Nat.le_of_ble_eq_true rfl) d_M_init_39 (fun q39 k39 H hK hP hD hS => ?_)
  have hP : va_P D classes [(q, .inr (3, [.int 0, .int 0, .int 0, .ref q7, .ref q15, .ref q23, .ref q31, .null, .int 0, .null, .null, .null, .null])), (q7, .inl (k7, 10, .inl (fun _ => 0))), (q15, .inl (k15, 40, .inl (fun _ => 0))), (q23, .inl (k23, 40, .inl (fun _ => 0))), (q31, .inl (k31, 40, .inl (fun _ => 0))), (q39, .inl (k39, 10, .inl (fun _ => 0)))] H := hP
  have hD : va_D A [(q, .inr (3, [.int 0, .int 0, .int 0, .ref q7, .ref q15, .ref q23, .ref q31, .null, .int 0, .null, .null, .null, .null])), (q7, .inl (k7, 10, .inl (fun _ => 0))), (q15, .inl (k15, 40, .inl (fun _ => 0))), (q23, .inl (k23, 40, .inl (fun _ => 0))), (q31, .inl (k31, 40, .inl (fun _ => 0))), (q39, .inl (k39, 10, .inl (fun _ => 0)))] := hD
  have hK : va_K D classes [(k7, .int), (k15, .int), (k23, .int), (k31, .boolean), (k39, .boolean)] s := hK
  refine W.widen (k := 5) (n := 140) (Nat.le_refl _) (Nat.le_refl _) ?_
  refine va_putF (D := D) (ci := 3) (v := .ref q39) (ty := (.array .boolean)) (C := R_M) (T := F_M) (N := 13) hx hb ht iC_M t_M t_M_ok n_M hown hK hP hD hS 0 rfl rfl 7 (by decide) (ht _ ix_212) (fun _ h9 => h9) rfl hin rfl (by decide +kernel) rfl rfl (Nat.le_of_ble_eq_true rfl) d_M_init_41 (fun H locs hP hD hS => ?_)
  have hP : va_P D classes [(q, .inr (3, [.int 0, .int 0, .int 0, .ref q7, .ref q15, .ref q23, .ref q31, .ref q39, .int 0, .null, .null, .null, .null])), (q7, .inl (k7, 10, .inl (fun _ => 0))), (q15, .inl (k15, 40, .inl (fun _ => 0))), (q23, .inl (k23, 40, .inl (fun _ => 0))), (q31, .inl (k31, 40, .inl (fun _ => 0))), (q39, .inl (k39, 10, .inl (fun _ => 0)))] H := hP
  have hD : va_D A [(q, .inr (3, [.int 0, .int 0, .int 0, .ref q7, .ref q15, .ref q23, .ref q31, .ref q39, .int 0, .null, .null, .null, .null])), (q7, .inl (k7, 10, .inl (fun _ => 0))), (q15, .inl (k15, 40, .inl (fun _ => 0))), (q23, .inl (k23, 40, .inl (fun _ => 0))), (q31, .inl (k31, 40, .inl (fun _ => 0))), (q39, .inl (k39, 10, .inl (fun _ => 0)))] := hD
  refine lv_aload_n hx hb d_M_init_44 rfl (lv_at hl 0 rfl) ?_
  refine lv_sipush (v := 260) hx hb d_M_init_45 (by decide) ?_
  refine va_newa (atype := .long) (ty := .long) (N' := 260) (a0 := (260, .inr (.inl (fun _ => 0)))) hx hb (ht _ ix_247) rfl hK hP hD hS hA (fun cA => rfl) (by decide) rfl (by decide) (Nat.le_of_ble_eq_true rfl) (Nat.le_of_ble_eq_true rfl) d_M_init_48 (fun q48 k48 H hK hP hD hS => ?_)
  have hP : va_P D classes [(q, .inr (3, [.int 0, .int 0, .int 0, .ref q7, .ref q15, .ref q23, .ref q31, .ref q39, .int 0, .null, .null, .null, .null])), (q7, .inl (k7, 10, .inl (fun _ => 0))), (q15, .inl (k15, 40, .inl (fun _ => 0))), (q23, .inl (k23, 40, .inl (fun _ => 0))), (q31, .inl (k31, 40, .inl (fun _ => 0))), (q39, .inl (k39, 10, .inl (fun _ => 0))), (q48, .inl (k48, 260, .inr (.inl (fun _ => 0))))] H := hP
  have hD : va_D A [(q, .inr (3, [.int 0, .int 0, .int 0, .ref q7, .ref q15, .ref q23, .ref q31, .ref q39, .int 0, .null, .null, .null, .null])), (q7, .inl (k7, 10, .inl (fun _ => 0))), (q15, .inl (k15, 40, .inl (fun _ => 0))), (q23, .inl (k23, 40, .inl (fun _ => 0))), (q31, .inl (k31, 40, .inl (fun _ => 0))), (q39, .inl (k39, 10, .inl (fun _ => 0))), (q48, .inl (k48, 260, .inr (.inl (fun _ => 0))))] := hD
  have hK : va_K D classes [(k7, .int), (k15, .int), (k23, .int), (k31, .boolean), (k39, .boolean), (k48, .long)] s := hK
  refine W.widen (k := 6) (n := 400) (Nat.le_refl _) (Nat.le_refl _) ?_
  refine va_putF (D := D) (ci := 3) (v := .ref q48) (ty := (.array .long)) (C := R_M) (T := F_M) (N := 13) hx hb ht iC_M t_M t_M_ok n_M hown hK hP hD hS 0 rfl rfl 9 (by decide) (ht _ ix_189) (fun _ h9 => h9) rfl hin rfl (by decide +kernel) rfl rfl (Nat.le_of_ble_eq_true rfl) d_M_init_50 (fun H locs hP hD hS => ?_)
  have hP : va_P D classes [(q, .inr (3, [.int 0, .int 0, .int 0, .ref q7, .ref q15, .ref q23, .ref q31, .ref q39, .int 0, .ref q48, .null, .null, .null])), (q7, .inl (k7, 10, .inl (fun _ => 0))), (q15, .inl (k15, 40, .inl (fun _ => 0))), (q23, .inl (k23, 40, .inl (fun _ => 0))), (q31, .inl (k31, 40, .inl (fun _ => 0))), (q39, .inl (k39, 10, .inl (fun _ => 0))), (q48, .inl (k48, 260, .inr (.inl (fun _ => 0))))] H := hP
  have hD : va_D A [(q, .inr (3, [.int 0, .int 0, .int 0, .ref q7, .ref q15, .ref q23, .ref q31, .ref q39, .int 0, .ref q48, .null, .null, .null])), (q7, .inl (k7, 10, .inl (fun _ => 0))), (q15, .inl (k15, 40, .inl (fun _ => 0))), (q23, .inl (k23, 40, .inl (fun _ => 0))), (q31, .inl (k31, 40, .inl (fun _ => 0))), (q39, .inl (k39, 10, .inl (fun _ => 0))), (q48, .inl (k48, 260, .inr (.inl (fun _ => 0))))] := hD
  refine lv_aload_n hx hb d_M_init_53 rfl (lv_at hl 0 rfl) ?_
  refine lv_sipush (v := 672) hx hb d_M_init_54 (by decide) ?_
  refine va_newa (atype := .int) (ty := .int) (N' := 672) (a0 := (672, .inl (fun _ => 0))) hx hb (ht _ ix_245) rfl hK hP hD hS hA (fun cA => rfl) (by decide) rfl (by decide) (Nat.le_of_ble_eq_true rfl) (Nat.le_of_ble_eq_true rfl) d_M_init_57 (fun q57 k57 H hK hP hD hS => ?_)
  have hP : va_P D classes [(q, .inr (3, [.int 0, .int 0, .int 0, .ref q7, .ref q15, .ref q23, .ref q31, .ref q39, .int 0, .ref q48, .null, .null, .null])), (q7, .inl (k7, 10, .inl (fun _ => 0))), (q15, .inl (k15, 40, .inl (fun _ => 0))), (q23, .inl (k23, 40, .inl (fun _ => 0))), (q31, .inl (k31, 40, .inl (fun _ => 0))), (q39, .inl (k39, 10, .inl (fun _ => 0))), (q48, .inl (k48, 260, .inr (.inl (fun _ => 0)))), (q57, .inl (k57, 672, .inl (fun _ => 0)))] H := hP
  have hD : va_D A [(q, .inr (3, [.int 0, .int 0, .int 0, .ref q7, .ref q15, .ref q23, .ref q31, .ref q39, .int 0, .ref q48, .null, .null, .null])), (q7, .inl (k7, 10, .inl (fun _ => 0))), (q15, .inl (k15, 40, .inl (fun _ => 0))), (q23, .inl (k23, 40, .inl (fun _ => 0))), (q31, .inl (k31, 40, .inl (fun _ => 0))), (q39, .inl (k39, 10, .inl (fun _ => 0))), (q48, .inl (k48, 260, .inr (.inl (fun _ => 0)))), (q57, .inl (k57, 672, .inl (fun _ => 0)))] := hD
  have hK : va_K D classes [(k7, .int), (k15, .int), (k23, .int), (k31, .boolean), (k39, .boolean), (k48, .long), (k57, .int)] s := hK
  refine W.widen (k := 7) (n := 1072) (Nat.le_refl _) (Nat.le_refl _) ?_
  refine va_putF (D := D) (ci := 3) (v := .ref q57) (ty := (.array .int)) (C := R_M) (T := F_M) (N := 13) hx hb ht iC_M t_M t_M_ok n_M hown hK hP hD hS 0 rfl rfl 10 (by decide) (ht _ ix_191) (fun _ h9 => h9) rfl hin rfl (by decide +kernel) rfl rfl (Nat.le_of_ble_eq_true rfl) d_M_init_59 (fun H locs hP hD hS => ?_)
  have hP : va_P D classes [(q, .inr (3, [.int 0, .int 0, .int 0, .ref q7, .ref q15, .ref q23, .ref q31, .ref q39, .int 0, .ref q48, .ref q57, .null, .null])), (q7, .inl (k7, 10, .inl (fun _ => 0))), (q15, .inl (k15, 40, .inl (fun _ => 0))), (q23, .inl (k23, 40, .inl (fun _ => 0))), (q31, .inl (k31, 40, .inl (fun _ => 0))), (q39, .inl (k39, 10, .inl (fun _ => 0))), (q48, .inl (k48, 260, .inr (.inl (fun _ => 0)))), (q57, .inl (k57, 672, .inl (fun _ => 0)))] H := hP
  have hD : va_D A [(q, .inr (3, [.int 0, .int 0, .int 0, .ref q7, .ref q15, .ref q23, .ref q31, .ref q39, .int 0, .ref q48, .ref q57, .null, .null])), (q7, .inl (k7, 10, .inl (fun _ => 0))), (q15, .inl (k15, 40, .inl (fun _ => 0))), (q23, .inl (k23, 40, .inl (fun _ => 0))), (q31, .inl (k31, 40, .inl (fun _ => 0))), (q39, .inl (k39, 10, .inl (fun _ => 0))), (q48, .inl (k48, 260, .inr (.inl (fun _ => 0)))), (q57, .inl (k57, 672, .inl (fun _ => 0)))] := hD
  refine lv_aload_n hx hb d_M_init_62 rfl (lv_at hl 0 rfl) ?_
  refine lv_bipush (v := 40) hx hb d_M_init_63 (by decide) ?_
  refine va_newa (atype := .long) (ty := .long) (N' := 40) (a0 := (40, .inr (.inl (fun _ => 0)))) hx hb (ht _ ix_247) rfl hK hP hD hS hA (fun cA => rfl) (by decide) rfl (by decide) (Nat.le_of_ble_eq_true rfl) (Nat.le_of_ble_eq_true rfl) d_M_init_65 (fun q65 k65 H hK hP hD hS => ?_)
  have hP : va_P D classes [(q, .inr (3, [.int 0, .int 0, .int 0, .ref q7, .ref q15, .ref q23, .ref q31, .ref q39, .int 0, .ref q48, .ref q57, .null, .null])), (q7, .inl (k7, 10, .inl (fun _ => 0))), (q15, .inl (k15, 40, .inl (fun _ => 0))), (q23, .inl (k23, 40, .inl (fun _ => 0))), (q31, .inl (k31, 40, .inl (fun _ => 0))), (q39, .inl (k39, 10, .inl (fun _ => 0))), (q48, .inl (k48, 260, .inr (.inl (fun _ => 0)))), (q57, .inl (k57, 672, .inl (fun _ => 0))), (q65, .inl (k65, 40, .inr (.inl (fun _ => 0))))] H := hP
  have hD : va_D A [(q, .inr (3, [.int 0, .int 0, .int 0, .ref q7, .ref q15, .ref q23, .ref q31, .ref q39, .int 0, .ref q48, .ref q57, .null, .null])), (q7, .inl (k7, 10, .inl (fun _ => 0))), (q15, .inl (k15, 40, .inl (fun _ => 0))), (q23, .inl (k23, 40, .inl (fun _ => 0))), (q31, .inl (k31, 40, .inl (fun _ => 0))), (q39, .inl (k39, 10, .inl (fun _ => 0))), (q48, .inl (k48, 260, .inr (.inl (fun _ => 0)))), (q57, .inl (k57, 672, .inl (fun _ => 0))), (q65, .inl (k65, 40, .inr (.inl (fun _ => 0))))] := hD
  have hK : va_K D classes [(k7, .int), (k15, .int), (k23, .int), (k31, .boolean), (k39, .boolean), (k48, .long), (k57, .int), (k65, .long)] s := hK
  refine W.widen (k := 8) (n := 1112) (Nat.le_refl _) (Nat.le_refl _) ?_
  refine va_putF (D := D) (ci := 3) (v := .ref q65) (ty := (.array .long)) (C := R_M) (T := F_M) (N := 13) hx hb ht iC_M t_M t_M_ok n_M hown hK hP hD hS 0 rfl rfl 11 (by decide) (ht _ ix_188) (fun _ h9 => h9) rfl hin rfl (by decide +kernel) rfl rfl (Nat.le_of_ble_eq_true rfl) d_M_init_67 (fun H locs hP hD hS => ?_)
  have hP : va_P D classes [(q, .inr (3, [.int 0, .int 0, .int 0, .ref q7, .ref q15, .ref q23, .ref q31, .ref q39, .int 0, .ref q48, .ref q57, .ref q65, .null])), (q7, .inl (k7, 10, .inl (fun _ => 0))), (q15, .inl (k15, 40, .inl (fun _ => 0))), (q23, .inl (k23, 40, .inl (fun _ => 0))), (q31, .inl (k31, 40, .inl (fun _ => 0))), (q39, .inl (k39, 10, .inl (fun _ => 0))), (q48, .inl (k48, 260, .inr (.inl (fun _ => 0)))), (q57, .inl (k57, 672, .inl (fun _ => 0))), (q65, .inl (k65, 40, .inr (.inl (fun _ => 0))))] H := hP
  have hD : va_D A [(q, .inr (3, [.int 0, .int 0, .int 0, .ref q7, .ref q15, .ref q23, .ref q31, .ref q39, .int 0, .ref q48, .ref q57, .ref q65, .null])), (q7, .inl (k7, 10, .inl (fun _ => 0))), (q15, .inl (k15, 40, .inl (fun _ => 0))), (q23, .inl (k23, 40, .inl (fun _ => 0))), (q31, .inl (k31, 40, .inl (fun _ => 0))), (q39, .inl (k39, 10, .inl (fun _ => 0))), (q48, .inl (k48, 260, .inr (.inl (fun _ => 0)))), (q57, .inl (k57, 672, .inl (fun _ => 0))), (q65, .inl (k65, 40, .inr (.inl (fun _ => 0))))] := hD
  refine lv_aload_n hx hb d_M_init_70 rfl (lv_at hl 0 rfl) ?_
  refine lv_iconst (v := 4) hx hb d_M_init_71 (by decide) ?_
  refine va_newa (atype := .int) (ty := .int) (N' := 4) (a0 := (4, .inl (fun _ => 0))) hx hb (ht _ ix_245) rfl hK hP hD hS hA (fun cA => rfl) (by decide) rfl (by decide) (Nat.le_of_ble_eq_true rfl) (Nat.le_of_ble_eq_true rfl) d_M_init_72 (fun q72 k72 H hK hP hD hS => ?_)
  have hP : va_P D classes [(q, .inr (3, [.int 0, .int 0, .int 0, .ref q7, .ref q15, .ref q23, .ref q31, .ref q39, .int 0, .ref q48, .ref q57, .ref q65, .null])), (q7, .inl (k7, 10, .inl (fun _ => 0))), (q15, .inl (k15, 40, .inl (fun _ => 0))), (q23, .inl (k23, 40, .inl (fun _ => 0))), (q31, .inl (k31, 40, .inl (fun _ => 0))), (q39, .inl (k39, 10, .inl (fun _ => 0))), (q48, .inl (k48, 260, .inr (.inl (fun _ => 0)))), (q57, .inl (k57, 672, .inl (fun _ => 0))), (q65, .inl (k65, 40, .inr (.inl (fun _ => 0)))), (q72, .inl (k72, 4, .inl (fun _ => 0)))] H := hP
  have hD : va_D A [(q, .inr (3, [.int 0, .int 0, .int 0, .ref q7, .ref q15, .ref q23, .ref q31, .ref q39, .int 0, .ref q48, .ref q57, .ref q65, .null])), (q7, .inl (k7, 10, .inl (fun _ => 0))), (q15, .inl (k15, 40, .inl (fun _ => 0))), (q23, .inl (k23, 40, .inl (fun _ => 0))), (q31, .inl (k31, 40, .inl (fun _ => 0))), (q39, .inl (k39, 10, .inl (fun _ => 0))), (q48, .inl (k48, 260, .inr (.inl (fun _ => 0)))), (q57, .inl (k57, 672, .inl (fun _ => 0))), (q65, .inl (k65, 40, .inr (.inl (fun _ => 0)))), (q72, .inl (k72, 4, .inl (fun _ => 0)))] := hD
  have hK : va_K D classes [(k7, .int), (k15, .int), (k23, .int), (k31, .boolean), (k39, .boolean), (k48, .long), (k57, .int), (k65, .long), (k72, .int)] s := hK
  refine W.widen (k := 9) (n := 1116) (Nat.le_refl _) (Nat.le_refl _) ?_
  refine va_putF (D := D) (ci := 3) (v := .ref q72) (ty := (.array .int)) (C := R_M) (T := F_M) (N := 13) hx hb ht iC_M t_M t_M_ok n_M hown hK hP hD hS 0 rfl rfl 12 (by decide) (ht _ ix_225) (fun _ h9 => h9) rfl hin rfl (by decide +kernel) rfl rfl (Nat.le_of_ble_eq_true rfl) d_M_init_74 (fun H locs hP hD hS => ?_)
  have hP : va_P D classes [(q, .inr (3, [.int 0, .int 0, .int 0, .ref q7, .ref q15, .ref q23, .ref q31, .ref q39, .int 0, .ref q48, .ref q57, .ref q65, .ref q72])), (q7, .inl (k7, 10, .inl (fun _ => 0))), (q15, .inl (k15, 40, .inl (fun _ => 0))), (q23, .inl (k23, 40, .inl (fun _ => 0))), (q31, .inl (k31, 40, .inl (fun _ => 0))), (q39, .inl (k39, 10, .inl (fun _ => 0))), (q48, .inl (k48, 260, .inr (.inl (fun _ => 0)))), (q57, .inl (k57, 672, .inl (fun _ => 0))), (q65, .inl (k65, 40, .inr (.inl (fun _ => 0)))), (q72, .inl (k72, 4, .inl (fun _ => 0)))] H := hP
  have hD : va_D A [(q, .inr (3, [.int 0, .int 0, .int 0, .ref q7, .ref q15, .ref q23, .ref q31, .ref q39, .int 0, .ref q48, .ref q57, .ref q65, .ref q72])), (q7, .inl (k7, 10, .inl (fun _ => 0))), (q15, .inl (k15, 40, .inl (fun _ => 0))), (q23, .inl (k23, 40, .inl (fun _ => 0))), (q31, .inl (k31, 40, .inl (fun _ => 0))), (q39, .inl (k39, 10, .inl (fun _ => 0))), (q48, .inl (k48, 260, .inr (.inl (fun _ => 0)))), (q57, .inl (k57, 672, .inl (fun _ => 0))), (q65, .inl (k65, 40, .inr (.inl (fun _ => 0)))), (q72, .inl (k72, 4, .inl (fun _ => 0)))] := hD
  exact W.vret hx hb hr (fun t ht hW => ⟨⟨((fun j => [q, q7, q15, q23, q31, q39, q48, q57, q65, q72].getD (j - 20) 0), (fun j => [k7, k7, k15, k23, k31, k39, k48, k57, k65, k72].getD (j - 20) k7)), rfl, rfl, by rw [ht]; exact hP, va_K.moved hW.alike hK, hD⟩, hS.F ht⟩) hS.2.2 d_M_init_77 hlk
def rm_B_init : Room := { frames := 2, cells := 12, slots := 910, locals := 32 }
set_option maxHeartbeats 4000000 in
set_option maxRecDepth 100000 in
theorem c_B_init (l : Launch) (D : va_G) (q sz : Nat) (r : (Nat → Int32) × Int32) (hr0 : F_B_orderAsGiven (fun _ => 0) 0 = some r) : Met l y_B_init (Cond.code y_B_init b_B_init 1 none :: lw_g) rm_B_init (va_Pc [.ref q] (fun U => pcW D [] [(q, .inr (0, [.null, .null, .int 0, .int 0, .null, .null, .null, .null, .null, .null, .int 0]))] sz U ∧ va_Nw (.methodLinkNest R_B 38 y_W_init "BracketSweep") U ∧ va_Nw (.methodLinkNest R_B 45 y_P_init "BracketSweep") U)) (va_Qv (fun (u : (Nat → Nat) × (Nat → ClassId) × Nat × Nat) => u.1 0 = q) (fun u t => va_P D classes (wB u.1 u.2.1 (fun _ => 0) (fun _ => 0) 0 0 r.1 (fun _ => 0) (fun _ => 0) (fun _ => 0) r.2 (fun _ => 0) (fun _ => 0) (fun _ => 0) (fun _ => 0) u.2.2.1 u.2.2.2) t.heap ∧ va_K D classes [(u.2.1 1, .int), (u.2.1 2, .int), (u.2.1 3, .int), (u.2.1 4, .int), (u.2.1 5, .boolean), (u.2.1 6, .int), (u.2.1 8, .int), (u.2.1 9, .int), (u.2.1 11, .long)] t ∧ va_D (va_A [(q, .inr (0, [.null, .null, .int 0, .int 0, .null, .null, .null, .null, .null, .null, .int 0]))] sz) (wB u.1 u.2.1 (fun _ => 0) (fun _ => 0) 0 0 r.1 (fun _ => 0) (fun _ => 0) (fun _ => 0) r.2 (fun _ => 0) (fun _ => 0) (fun _ => 0) (fun _ => 0) u.2.2.1 u.2.2.2)) (va_A [(q, .inr (0, [.null, .null, .int 0, .int 0, .null, .null, .null, .null, .null, .null, .int 0]))] sz)) 12 910 (va_A [(q, .inr (0, [.null, .null, .int 0, .int 0, .null, .null, .null, .null, .null, .null, .int 0]))] sz) := by
  refine Met.ofW (cc := b_B_init) (maxL := 1) (ret := none) (by decide) rfl ?_
  intro p e s m args below meth c s₁ B hml hv
  obtain ⟨rfl, ⟨hsz, hP, hK, hD0⟩, hn1, hn2⟩ := hv
  have hx := B.exec
  have hb := B.bytes
  have hr := B.returns
  have hts := atoms_spec (ws := Cond.code y_B_init b_B_init 1 none :: lw_g) B.pre
  have ht : ∀ w ∈ lw_g, w.before [Value.ref q].toArray s = true := fun w hw => hts w (List.mem_cons_of_mem _ hw)
  have hown : s.vm.findClass R_B = some m.cls := findClass_of_methodNamed B.named
  have hlk := B.notSynchronized
  have hin : meth.name = "<init>" := (name_of_methodNamed B.named B.method).1
  subst hsz
  have hD := hD0.self (sz := s.heap.size)
  generalize hAe : va_A [(q, .inr (0, [.null, .null, .int 0, .int 0, .null, .null, .null, .null, .null, .null, .int 0]))] s.heap.size = A at hD ⊢
  have hA : ∀ q : Nat, s.heap.size ≤ q → A q := fun q h => by rw [← hAe]; exact Or.inr h
  have hS : va_S A s.heap s.heap [] := va_S.rf
  have hl := lv_entry ([.ref q]) (n := 1) (Nat.le_of_ble_eq_true rfl)
  rw [lg_entry_eq]
  generalize (lg_sl ([.ref q]) ++ List.replicate (1 - (lg_sl ([.ref q])).length) Slot.unset).toArray = ls at hl ⊢
  have hl : lv_has ls 1 [(0, .ref q)] := hl
  have hP : va_P D classes [(q, .inr (0, [.null, .null, .int 0, .int 0, .null, .null, .null, .null, .null, .null, .int 0]))] s.heap := hP
  refine lv_aload_n hx hb d_B_init_0 rfl (lv_at hl 0 rfl) ?_
  refine W.objInit hx hb hown (ht _ ix_250) (ht _ ix_243) (ht _ ix_244) rfl (by rw [hml]; exact hl.1) rfl d_B_init_1 (Nat.le_of_ble_eq_true rfl) (Nat.le_of_ble_eq_true rfl) ?_
  refine W.eq (g2 := F0 m 4 ls []) rfl ?_
  refine lv_aload_n hx hb d_B_init_4 rfl (lv_at hl 0 rfl) ?_
  refine lv_bipush (v := 40) hx hb d_B_init_5 (by decide) ?_
  refine va_newa (atype := .int) (ty := .int) (N' := 40) (a0 := (40, .inl (fun _ => 0))) hx hb (ht _ ix_245) rfl hK hP hD hS hA (fun cA => rfl) (by decide) rfl (by decide) (Nat.le_of_ble_eq_true rfl) (Nat.le_of_ble_eq_true rfl) d_B_init_7 (fun q7 k7 H hK hP hD hS => ?_)
  have hP : va_P D classes [(q, .inr (0, [.null, .null, .int 0, .int 0, .null, .null, .null, .null, .null, .null, .int 0])), (q7, .inl (k7, 40, .inl (fun _ => 0)))] H := hP
  have hD : va_D A [(q, .inr (0, [.null, .null, .int 0, .int 0, .null, .null, .null, .null, .null, .null, .int 0])), (q7, .inl (k7, 40, .inl (fun _ => 0)))] := hD
  have hK : va_K D classes [(k7, .int)] s := hK
  refine W.widen (k := 1) (n := 40) (Nat.le_refl _) (Nat.le_refl _) ?_
  refine va_putF (D := D) (ci := 0) (v := .ref q7) (ty := (.array .int)) (C := R_B) (T := F_B) (N := 11) hx hb ht iC_B t_B t_B_ok n_B hown hK hP hD hS 0 rfl rfl 0 (by decide) (ht _ ix_43) (fun _ h9 => h9) rfl hin rfl (by decide +kernel) rfl rfl (Nat.le_of_ble_eq_true rfl) d_B_init_9 (fun H locs hP hD hS => ?_)
  have hP : va_P D classes [(q, .inr (0, [.ref q7, .null, .int 0, .int 0, .null, .null, .null, .null, .null, .null, .int 0])), (q7, .inl (k7, 40, .inl (fun _ => 0)))] H := hP
  have hD : va_D A [(q, .inr (0, [.ref q7, .null, .int 0, .int 0, .null, .null, .null, .null, .null, .null, .int 0])), (q7, .inl (k7, 40, .inl (fun _ => 0)))] := hD
  refine lv_aload_n hx hb d_B_init_12 rfl (lv_at hl 0 rfl) ?_
  refine lv_bipush (v := 10) hx hb d_B_init_13 (by decide) ?_
  refine va_newa (atype := .int) (ty := .int) (N' := 10) (a0 := (10, .inl (fun _ => 0))) hx hb (ht _ ix_245) rfl hK hP hD hS hA (fun cA => rfl) (by decide) rfl (by decide) (Nat.le_of_ble_eq_true rfl) (Nat.le_of_ble_eq_true rfl) d_B_init_15 (fun q15 k15 H hK hP hD hS => ?_)
  have hP : va_P D classes [(q, .inr (0, [.ref q7, .null, .int 0, .int 0, .null, .null, .null, .null, .null, .null, .int 0])), (q7, .inl (k7, 40, .inl (fun _ => 0))), (q15, .inl (k15, 10, .inl (fun _ => 0)))] H := hP
  have hD : va_D A [(q, .inr (0, [.ref q7, .null, .int 0, .int 0, .null, .null, .null, .null, .null, .null, .int 0])), (q7, .inl (k7, 40, .inl (fun _ => 0))), (q15, .inl (k15, 10, .inl (fun _ => 0)))] := hD
  have hK : va_K D classes [(k7, .int), (k15, .int)] s := hK
  refine W.widen (k := 2) (n := 50) (Nat.le_refl _) (Nat.le_refl _) ?_
  refine va_putF (D := D) (ci := 0) (v := .ref q15) (ty := (.array .int)) (C := R_B) (T := F_B) (N := 11) hx hb ht iC_B t_B t_B_ok n_B hown hK hP hD hS 0 rfl rfl 1 (by decide) (ht _ ix_53) (fun _ h9 => h9) rfl hin rfl (by decide +kernel) rfl rfl (Nat.le_of_ble_eq_true rfl) d_B_init_17 (fun H locs hP hD hS => ?_)
  have hP : va_P D classes [(q, .inr (0, [.ref q7, .ref q15, .int 0, .int 0, .null, .null, .null, .null, .null, .null, .int 0])), (q7, .inl (k7, 40, .inl (fun _ => 0))), (q15, .inl (k15, 10, .inl (fun _ => 0)))] H := hP
  have hD : va_D A [(q, .inr (0, [.ref q7, .ref q15, .int 0, .int 0, .null, .null, .null, .null, .null, .null, .int 0])), (q7, .inl (k7, 40, .inl (fun _ => 0))), (q15, .inl (k15, 10, .inl (fun _ => 0)))] := hD
  refine lv_aload_n hx hb d_B_init_20 rfl (lv_at hl 0 rfl) ?_
  refine lv_iconst (v := 0) hx hb d_B_init_21 (by decide) ?_
  refine va_put (D := D) (ci := 0) (v := .int 0) (ty := .int) (C := R_B) (T := F_B) (N := 11) hx hb ht iC_B t_B t_B_ok n_B hown hK hP hD hS 0 rfl rfl 2 (by decide) (ht _ ix_38) (fun _ h9 => h9) rfl (by decide +kernel) rfl rfl (Nat.le_of_ble_eq_true rfl) d_B_init_22 (fun H locs hP hD hS => ?_)
  have hP : va_P D classes [(q, .inr (0, [.ref q7, .ref q15, .int 0, .int 0, .null, .null, .null, .null, .null, .null, .int 0])), (q7, .inl (k7, 40, .inl (fun _ => 0))), (q15, .inl (k15, 10, .inl (fun _ => 0)))] H := hP
  have hD : va_D A [(q, .inr (0, [.ref q7, .ref q15, .int 0, .int 0, .null, .null, .null, .null, .null, .null, .int 0])), (q7, .inl (k7, 40, .inl (fun _ => 0))), (q15, .inl (k15, 10, .inl (fun _ => 0)))] := hD
  refine lv_aload_n hx hb d_B_init_25 rfl (lv_at hl 0 rfl) ?_
  refine lv_iconst (v := 0) hx hb d_B_init_26 (by decide) ?_
  refine va_put (D := D) (ci := 0) (v := .int 0) (ty := .int) (C := R_B) (T := F_B) (N := 11) hx hb ht iC_B t_B t_B_ok n_B hown hK hP hD hS 0 rfl rfl 3 (by decide) (ht _ ix_54) (fun _ h9 => h9) rfl (by decide +kernel) rfl rfl (Nat.le_of_ble_eq_true rfl) d_B_init_27 (fun H locs hP hD hS => ?_)
  have hP : va_P D classes [(q, .inr (0, [.ref q7, .ref q15, .int 0, .int 0, .null, .null, .null, .null, .null, .null, .int 0])), (q7, .inl (k7, 40, .inl (fun _ => 0))), (q15, .inl (k15, 10, .inl (fun _ => 0)))] H := hP
  have hD : va_D A [(q, .inr (0, [.ref q7, .ref q15, .int 0, .int 0, .null, .null, .null, .null, .null, .null, .int 0])), (q7, .inl (k7, 40, .inl (fun _ => 0))), (q15, .inl (k15, 10, .inl (fun _ => 0)))] := hD
  refine lv_aload_n hx hb d_B_init_30 rfl (lv_at hl 0 rfl) ?_
  refine lv_bipush (v := 10) hx hb d_B_init_31 (by decide) ?_
  refine va_newa (atype := .int) (ty := .int) (N' := 10) (a0 := (10, .inl (fun _ => 0))) hx hb (ht _ ix_245) rfl hK hP hD hS hA (fun cA => rfl) (by decide) rfl (by decide) (Nat.le_of_ble_eq_true rfl) (Nat.le_of_ble_eq_true rfl) d_B_init_33 (fun q33 k33 H hK hP hD hS => ?_)
  have hP : va_P D classes [(q, .inr (0, [.ref q7, .ref q15, .int 0, .int 0, .null, .null, .null, .null, .null, .null, .int 0])), (q7, .inl (k7, 40, .inl (fun _ => 0))), (q15, .inl (k15, 10, .inl (fun _ => 0))), (q33, .inl (k33, 10, .inl (fun _ => 0)))] H := hP
  have hD : va_D A [(q, .inr (0, [.ref q7, .ref q15, .int 0, .int 0, .null, .null, .null, .null, .null, .null, .int 0])), (q7, .inl (k7, 40, .inl (fun _ => 0))), (q15, .inl (k15, 10, .inl (fun _ => 0))), (q33, .inl (k33, 10, .inl (fun _ => 0)))] := hD
  have hK : va_K D classes [(k7, .int), (k15, .int), (k33, .int)] s := hK
  refine W.widen (k := 3) (n := 60) (Nat.le_refl _) (Nat.le_refl _) ?_
  refine va_putF (D := D) (ci := 0) (v := .ref q33) (ty := (.array .int)) (C := R_B) (T := F_B) (N := 11) hx hb ht iC_B t_B t_B_ok n_B hown hK hP hD hS 0 rfl rfl 4 (by decide) (ht _ ix_40) (fun _ h9 => h9) rfl hin rfl (by decide +kernel) rfl rfl (Nat.le_of_ble_eq_true rfl) d_B_init_35 (fun H locs hP hD hS => ?_)
  have hP : va_P D classes [(q, .inr (0, [.ref q7, .ref q15, .int 0, .int 0, .ref q33, .null, .null, .null, .null, .null, .int 0])), (q7, .inl (k7, 40, .inl (fun _ => 0))), (q15, .inl (k15, 10, .inl (fun _ => 0))), (q33, .inl (k33, 10, .inl (fun _ => 0)))] H := hP
  have hD : va_D A [(q, .inr (0, [.ref q7, .ref q15, .int 0, .int 0, .ref q33, .null, .null, .null, .null, .null, .int 0])), (q7, .inl (k7, 40, .inl (fun _ => 0))), (q15, .inl (k15, 10, .inl (fun _ => 0))), (q33, .inl (k33, 10, .inl (fun _ => 0)))] := hD
  refine lv_aload_n hx hb d_B_init_38 rfl (lv_at hl 0 rfl) ?_
  refine lv_bipush (v := 100) hx hb d_B_init_39 (by decide) ?_
  refine va_newa (atype := .int) (ty := .int) (N' := 100) (a0 := (100, .inl (fun _ => 0))) hx hb (ht _ ix_245) rfl hK hP hD hS hA (fun cA => rfl) (by decide) rfl (by decide) (Nat.le_of_ble_eq_true rfl) (Nat.le_of_ble_eq_true rfl) d_B_init_41 (fun q41 k41 H hK hP hD hS => ?_)
  have hP : va_P D classes [(q, .inr (0, [.ref q7, .ref q15, .int 0, .int 0, .ref q33, .null, .null, .null, .null, .null, .int 0])), (q7, .inl (k7, 40, .inl (fun _ => 0))), (q15, .inl (k15, 10, .inl (fun _ => 0))), (q33, .inl (k33, 10, .inl (fun _ => 0))), (q41, .inl (k41, 100, .inl (fun _ => 0)))] H := hP
  have hD : va_D A [(q, .inr (0, [.ref q7, .ref q15, .int 0, .int 0, .ref q33, .null, .null, .null, .null, .null, .int 0])), (q7, .inl (k7, 40, .inl (fun _ => 0))), (q15, .inl (k15, 10, .inl (fun _ => 0))), (q33, .inl (k33, 10, .inl (fun _ => 0))), (q41, .inl (k41, 100, .inl (fun _ => 0)))] := hD
  have hK : va_K D classes [(k7, .int), (k15, .int), (k33, .int), (k41, .int)] s := hK
  refine W.widen (k := 4) (n := 160) (Nat.le_refl _) (Nat.le_refl _) ?_
  refine va_putF (D := D) (ci := 0) (v := .ref q41) (ty := (.array .int)) (C := R_B) (T := F_B) (N := 11) hx hb ht iC_B t_B t_B_ok n_B hown hK hP hD hS 0 rfl rfl 5 (by decide) (ht _ ix_41) (fun _ h9 => h9) rfl hin rfl (by decide +kernel) rfl rfl (Nat.le_of_ble_eq_true rfl) d_B_init_43 (fun H locs hP hD hS => ?_)
  have hP : va_P D classes [(q, .inr (0, [.ref q7, .ref q15, .int 0, .int 0, .ref q33, .ref q41, .null, .null, .null, .null, .int 0])), (q7, .inl (k7, 40, .inl (fun _ => 0))), (q15, .inl (k15, 10, .inl (fun _ => 0))), (q33, .inl (k33, 10, .inl (fun _ => 0))), (q41, .inl (k41, 100, .inl (fun _ => 0)))] H := hP
  have hD : va_D A [(q, .inr (0, [.ref q7, .ref q15, .int 0, .int 0, .ref q33, .ref q41, .null, .null, .null, .null, .int 0])), (q7, .inl (k7, 40, .inl (fun _ => 0))), (q15, .inl (k15, 10, .inl (fun _ => 0))), (q33, .inl (k33, 10, .inl (fun _ => 0))), (q41, .inl (k41, 100, .inl (fun _ => 0)))] := hD
  refine lv_aload_n hx hb d_B_init_46 rfl (lv_at hl 0 rfl) ?_
  refine lv_bipush (v := 10) hx hb d_B_init_47 (by decide) ?_
  refine va_newa (atype := .boolean) (ty := .boolean) (N' := 10) (a0 := (10, .inl (fun _ => 0))) hx hb (ht _ ix_249) rfl hK hP hD hS hA (fun cA => rfl) (by decide) rfl (by decide) (Nat.le_of_ble_eq_true rfl) (Nat.le_of_ble_eq_true rfl) d_B_init_49 (fun q49 k49 H hK hP hD hS => ?_)
  have hP : va_P D classes [(q, .inr (0, [.ref q7, .ref q15, .int 0, .int 0, .ref q33, .ref q41, .null, .null, .null, .null, .int 0])), (q7, .inl (k7, 40, .inl (fun _ => 0))), (q15, .inl (k15, 10, .inl (fun _ => 0))), (q33, .inl (k33, 10, .inl (fun _ => 0))), (q41, .inl (k41, 100, .inl (fun _ => 0))), (q49, .inl (k49, 10, .inl (fun _ => 0)))] H := hP
  have hD : va_D A [(q, .inr (0, [.ref q7, .ref q15, .int 0, .int 0, .ref q33, .ref q41, .null, .null, .null, .null, .int 0])), (q7, .inl (k7, 40, .inl (fun _ => 0))), (q15, .inl (k15, 10, .inl (fun _ => 0))), (q33, .inl (k33, 10, .inl (fun _ => 0))), (q41, .inl (k41, 100, .inl (fun _ => 0))), (q49, .inl (k49, 10, .inl (fun _ => 0)))] := hD
  have hK : va_K D classes [(k7, .int), (k15, .int), (k33, .int), (k41, .int), (k49, .boolean)] s := hK
  refine W.widen (k := 5) (n := 170) (Nat.le_refl _) (Nat.le_refl _) ?_
  refine va_putF (D := D) (ci := 0) (v := .ref q49) (ty := (.array .boolean)) (C := R_B) (T := F_B) (N := 11) hx hb ht iC_B t_B t_B_ok n_B hown hK hP hD hS 0 rfl rfl 6 (by decide) (ht _ ix_59) (fun _ h9 => h9) rfl hin rfl (by decide +kernel) rfl rfl (Nat.le_of_ble_eq_true rfl) d_B_init_51 (fun H locs hP hD hS => ?_)
  have hP : va_P D classes [(q, .inr (0, [.ref q7, .ref q15, .int 0, .int 0, .ref q33, .ref q41, .ref q49, .null, .null, .null, .int 0])), (q7, .inl (k7, 40, .inl (fun _ => 0))), (q15, .inl (k15, 10, .inl (fun _ => 0))), (q33, .inl (k33, 10, .inl (fun _ => 0))), (q41, .inl (k41, 100, .inl (fun _ => 0))), (q49, .inl (k49, 10, .inl (fun _ => 0)))] H := hP
  have hD : va_D A [(q, .inr (0, [.ref q7, .ref q15, .int 0, .int 0, .ref q33, .ref q41, .ref q49, .null, .null, .null, .int 0])), (q7, .inl (k7, 40, .inl (fun _ => 0))), (q15, .inl (k15, 10, .inl (fun _ => 0))), (q33, .inl (k33, 10, .inl (fun _ => 0))), (q41, .inl (k41, 100, .inl (fun _ => 0))), (q49, .inl (k49, 10, .inl (fun _ => 0)))] := hD
  refine lv_aload_n hx hb d_B_init_54 rfl (lv_at hl 0 rfl) ?_
  refine lv_sipush (v := 330) hx hb d_B_init_55 (by decide) ?_
  refine va_newa (atype := .int) (ty := .int) (N' := 330) (a0 := (330, .inl (fun _ => 0))) hx hb (ht _ ix_245) rfl hK hP hD hS hA (fun cA => rfl) (by decide) rfl (by decide) (Nat.le_of_ble_eq_true rfl) (Nat.le_of_ble_eq_true rfl) d_B_init_58 (fun q58 k58 H hK hP hD hS => ?_)
  have hP : va_P D classes [(q, .inr (0, [.ref q7, .ref q15, .int 0, .int 0, .ref q33, .ref q41, .ref q49, .null, .null, .null, .int 0])), (q7, .inl (k7, 40, .inl (fun _ => 0))), (q15, .inl (k15, 10, .inl (fun _ => 0))), (q33, .inl (k33, 10, .inl (fun _ => 0))), (q41, .inl (k41, 100, .inl (fun _ => 0))), (q49, .inl (k49, 10, .inl (fun _ => 0))), (q58, .inl (k58, 330, .inl (fun _ => 0)))] H := hP
  have hD : va_D A [(q, .inr (0, [.ref q7, .ref q15, .int 0, .int 0, .ref q33, .ref q41, .ref q49, .null, .null, .null, .int 0])), (q7, .inl (k7, 40, .inl (fun _ => 0))), (q15, .inl (k15, 10, .inl (fun _ => 0))), (q33, .inl (k33, 10, .inl (fun _ => 0))), (q41, .inl (k41, 100, .inl (fun _ => 0))), (q49, .inl (k49, 10, .inl (fun _ => 0))), (q58, .inl (k58, 330, .inl (fun _ => 0)))] := hD
  have hK : va_K D classes [(k7, .int), (k15, .int), (k33, .int), (k41, .int), (k49, .boolean), (k58, .int)] s := hK
  refine W.widen (k := 6) (n := 500) (Nat.le_refl _) (Nat.le_refl _) ?_
  refine va_putF (D := D) (ci := 0) (v := .ref q58) (ty := (.array .int)) (C := R_B) (T := F_B) (N := 11) hx hb ht iC_B t_B t_B_ok n_B hown hK hP hD hS 0 rfl rfl 7 (by decide) (ht _ ix_83) (fun _ h9 => h9) rfl hin rfl (by decide +kernel) rfl rfl (Nat.le_of_ble_eq_true rfl) d_B_init_60 (fun H locs hP hD hS => ?_)
  have hP : va_P D classes [(q, .inr (0, [.ref q7, .ref q15, .int 0, .int 0, .ref q33, .ref q41, .ref q49, .ref q58, .null, .null, .int 0])), (q7, .inl (k7, 40, .inl (fun _ => 0))), (q15, .inl (k15, 10, .inl (fun _ => 0))), (q33, .inl (k33, 10, .inl (fun _ => 0))), (q41, .inl (k41, 100, .inl (fun _ => 0))), (q49, .inl (k49, 10, .inl (fun _ => 0))), (q58, .inl (k58, 330, .inl (fun _ => 0)))] H := hP
  have hD : va_D A [(q, .inr (0, [.ref q7, .ref q15, .int 0, .int 0, .ref q33, .ref q41, .ref q49, .ref q58, .null, .null, .int 0])), (q7, .inl (k7, 40, .inl (fun _ => 0))), (q15, .inl (k15, 10, .inl (fun _ => 0))), (q33, .inl (k33, 10, .inl (fun _ => 0))), (q41, .inl (k41, 100, .inl (fun _ => 0))), (q49, .inl (k49, 10, .inl (fun _ => 0))), (q58, .inl (k58, 330, .inl (fun _ => 0)))] := hD
  refine lv_aload_n hx hb d_B_init_63 rfl (lv_at hl 0 rfl) ?_
  refine va_new (ci := 1) (fs := [.null, .null]) (C := R_W) (T := F_W) (N := 2) hx hb ht iC_W t_W t_W_ok hown (ht _ ix_251) (ht _ ix_252) (ht _ ix_10) hK hP hD hS hA rfl (fun j hj => by rcases (show j = 0 ∨ j = 1 by omega) with rfl | rfl <;> rfl) (Nat.le_of_ble_eq_true rfl) (Nat.le_of_ble_eq_true rfl) d_B_init_64 (fun q64 H hP hD hS => ?_)
  have hP : va_P D classes [(q, .inr (0, [.ref q7, .ref q15, .int 0, .int 0, .ref q33, .ref q41, .ref q49, .ref q58, .null, .null, .int 0])), (q7, .inl (k7, 40, .inl (fun _ => 0))), (q15, .inl (k15, 10, .inl (fun _ => 0))), (q33, .inl (k33, 10, .inl (fun _ => 0))), (q41, .inl (k41, 100, .inl (fun _ => 0))), (q49, .inl (k49, 10, .inl (fun _ => 0))), (q58, .inl (k58, 330, .inl (fun _ => 0))), (q64, .inr (1, [.null, .null]))] H := hP
  have hD : va_D A [(q, .inr (0, [.ref q7, .ref q15, .int 0, .int 0, .ref q33, .ref q41, .ref q49, .ref q58, .null, .null, .int 0])), (q7, .inl (k7, 40, .inl (fun _ => 0))), (q15, .inl (k15, 10, .inl (fun _ => 0))), (q33, .inl (k33, 10, .inl (fun _ => 0))), (q41, .inl (k41, 100, .inl (fun _ => 0))), (q49, .inl (k49, 10, .inl (fun _ => 0))), (q58, .inl (k58, 330, .inl (fun _ => 0))), (q64, .inr (1, [.null, .null]))] := hD
  refine W.widen (k := 7) (n := 502) (Nat.le_refl _) (Nat.le_refl _) ?_
  refine lv_dup hx hb d_B_init_67 rfl ?_
  have hPc := hP.sub (ws' := [(q64, .inr (1, [.null, .null]))]) [7] rfl
  have hDc := hD.sub (ws' := [(q64, .inr (1, [.null, .null]))]) [7] (by decide) rfl
  have hKc := hK.sub (tys' := []) [] rfl
  have hFc := va_free (wc := [(q64, .inr (1, [.null, .null]))]) hD hS hA [7] rfl
  refine va_callv (va_runIN (As := []) (rest := [.ref q64, .ref q]) ⟨hx, hb, hml, hown, ht⟩ (c_W_init l D q64 H.size) ⟨va_cnB 0 ht (gd_T ix_253) rfl rfl rfl hn1 (ht _ ix_10) (by decide +kernel) ⟨Nat.le_of_ble_eq_true rfl, Nat.le_of_ble_eq_true rfl⟩, rfl, ht _ ix_254⟩ ⟨fb_pc, fun U hU hW => ⟨rfl, by rw [hU], by rw [hU]; exact hPc, va_K.moved hW.alike hKc, hDc.weaken (fun _ _ _ _ => trivial)⟩⟩ rfl rfl hl.1 rfl (lv_room (Nat.le_of_ble_eq_true rfl)) d_B_init_68 ⟨Nat.le_of_ble_eq_true rfl, Nat.le_of_ble_eq_true rfl⟩) hS (fun q _ h => hFc q h) hFc (fun u68 t H1 locs ht1 hvm hw hB hz1 hk1 hS => ?_)
  obtain ⟨p1, p2, w1, w2⟩ := u68
  obtain ⟨hP1, hK1, hD1⟩ := hB
  rw [ht1] at hP1
  have hK1 := va_K.moved hvm.symm hK1
  obtain ⟨hP, hD⟩ := va_join (wr := [(q, .inr (0, [.ref q7, .ref q15, .int 0, .int 0, .ref q33, .ref q41, .ref q49, .ref q58, .null, .null, .int 0])), (q7, .inl (k7, 40, .inl (fun _ => 0))), (q15, .inl (k15, 10, .inl (fun _ => 0))), (q33, .inl (k33, 10, .inl (fun _ => 0))), (q41, .inl (k41, 100, .inl (fun _ => 0))), (q49, .inl (k49, 10, .inl (fun _ => 0))), (q58, .inl (k58, 330, .inl (fun _ => 0)))]) (w1 := [(q64, .inr (1, [.ref p1, .ref p2])), (p1, .inl (w1, 40, .inl (fun _ => 0))), (p2, .inl (w2, 100, .inl (fun _ => 0)))]) hP hD [7] [0, 1, 2, 3, 4, 5, 6] rfl rfl (by decide) (by decide) hk1 hFc hP1 hD1
  have hK := hK.app hK1
  generalize H1 = H at hP hS ⊢
  have hP : va_P D classes [(q, .inr (0, [.ref q7, .ref q15, .int 0, .int 0, .ref q33, .ref q41, .ref q49, .ref q58, .null, .null, .int 0])), (q7, .inl (k7, 40, .inl (fun _ => 0))), (q15, .inl (k15, 10, .inl (fun _ => 0))), (q33, .inl (k33, 10, .inl (fun _ => 0))), (q41, .inl (k41, 100, .inl (fun _ => 0))), (q49, .inl (k49, 10, .inl (fun _ => 0))), (q58, .inl (k58, 330, .inl (fun _ => 0))), (q64, .inr (1, [.ref p1, .ref p2])), (p1, .inl (w1, 40, .inl (fun _ => 0))), (p2, .inl (w2, 100, .inl (fun _ => 0)))] H := hP
  have hD : va_D A [(q, .inr (0, [.ref q7, .ref q15, .int 0, .int 0, .ref q33, .ref q41, .ref q49, .ref q58, .null, .null, .int 0])), (q7, .inl (k7, 40, .inl (fun _ => 0))), (q15, .inl (k15, 10, .inl (fun _ => 0))), (q33, .inl (k33, 10, .inl (fun _ => 0))), (q41, .inl (k41, 100, .inl (fun _ => 0))), (q49, .inl (k49, 10, .inl (fun _ => 0))), (q58, .inl (k58, 330, .inl (fun _ => 0))), (q64, .inr (1, [.ref p1, .ref p2])), (p1, .inl (w1, 40, .inl (fun _ => 0))), (p2, .inl (w2, 100, .inl (fun _ => 0)))] := hD
  have hK : va_K D classes [(k7, .int), (k15, .int), (k33, .int), (k41, .int), (k49, .boolean), (k58, .int), (w1, .int), (w2, .int)] s := hK
  refine W.widen (k := 9) (n := 642) (Nat.le_refl _) (Nat.le_refl _) ?_
  refine va_putF (D := D) (ci := 0) (v := .ref q64) (ty := (.object "BracketSweep$Ways")) (C := R_B) (T := F_B) (N := 11) hx hb ht iC_B t_B t_B_ok n_B hown hK hP hD hS 0 rfl rfl 8 (by decide) (ht _ ix_71) (fun _ h9 => h9) rfl hin rfl (by decide +kernel) rfl rfl (Nat.le_of_ble_eq_true rfl) d_B_init_71 (fun H locs hP hD hS => ?_)
  have hP : va_P D classes [(q, .inr (0, [.ref q7, .ref q15, .int 0, .int 0, .ref q33, .ref q41, .ref q49, .ref q58, .ref q64, .null, .int 0])), (q7, .inl (k7, 40, .inl (fun _ => 0))), (q15, .inl (k15, 10, .inl (fun _ => 0))), (q33, .inl (k33, 10, .inl (fun _ => 0))), (q41, .inl (k41, 100, .inl (fun _ => 0))), (q49, .inl (k49, 10, .inl (fun _ => 0))), (q58, .inl (k58, 330, .inl (fun _ => 0))), (q64, .inr (1, [.ref p1, .ref p2])), (p1, .inl (w1, 40, .inl (fun _ => 0))), (p2, .inl (w2, 100, .inl (fun _ => 0)))] H := hP
  have hD : va_D A [(q, .inr (0, [.ref q7, .ref q15, .int 0, .int 0, .ref q33, .ref q41, .ref q49, .ref q58, .ref q64, .null, .int 0])), (q7, .inl (k7, 40, .inl (fun _ => 0))), (q15, .inl (k15, 10, .inl (fun _ => 0))), (q33, .inl (k33, 10, .inl (fun _ => 0))), (q41, .inl (k41, 100, .inl (fun _ => 0))), (q49, .inl (k49, 10, .inl (fun _ => 0))), (q58, .inl (k58, 330, .inl (fun _ => 0))), (q64, .inr (1, [.ref p1, .ref p2])), (p1, .inl (w1, 40, .inl (fun _ => 0))), (p2, .inl (w2, 100, .inl (fun _ => 0)))] := hD
  refine lv_aload_n hx hb d_B_init_74 rfl (lv_at hl 0 rfl) ?_
  refine va_new (ci := 2) (fs := [.null, .null]) (C := R_P) (T := F_P) (N := 2) hx hb ht iC_P t_P t_P_ok hown (ht _ ix_255) (ht _ ix_256) (ht _ ix_31) hK hP hD hS hA rfl (fun j hj => by rcases (show j = 0 ∨ j = 1 by omega) with rfl | rfl <;> rfl) (Nat.le_of_ble_eq_true rfl) (Nat.le_of_ble_eq_true rfl) d_B_init_75 (fun q75 H hP hD hS => ?_)
  have hP : va_P D classes [(q, .inr (0, [.ref q7, .ref q15, .int 0, .int 0, .ref q33, .ref q41, .ref q49, .ref q58, .ref q64, .null, .int 0])), (q7, .inl (k7, 40, .inl (fun _ => 0))), (q15, .inl (k15, 10, .inl (fun _ => 0))), (q33, .inl (k33, 10, .inl (fun _ => 0))), (q41, .inl (k41, 100, .inl (fun _ => 0))), (q49, .inl (k49, 10, .inl (fun _ => 0))), (q58, .inl (k58, 330, .inl (fun _ => 0))), (q64, .inr (1, [.ref p1, .ref p2])), (p1, .inl (w1, 40, .inl (fun _ => 0))), (p2, .inl (w2, 100, .inl (fun _ => 0))), (q75, .inr (2, [.null, .null]))] H := hP
  have hD : va_D A [(q, .inr (0, [.ref q7, .ref q15, .int 0, .int 0, .ref q33, .ref q41, .ref q49, .ref q58, .ref q64, .null, .int 0])), (q7, .inl (k7, 40, .inl (fun _ => 0))), (q15, .inl (k15, 10, .inl (fun _ => 0))), (q33, .inl (k33, 10, .inl (fun _ => 0))), (q41, .inl (k41, 100, .inl (fun _ => 0))), (q49, .inl (k49, 10, .inl (fun _ => 0))), (q58, .inl (k58, 330, .inl (fun _ => 0))), (q64, .inr (1, [.ref p1, .ref p2])), (p1, .inl (w1, 40, .inl (fun _ => 0))), (p2, .inl (w2, 100, .inl (fun _ => 0))), (q75, .inr (2, [.null, .null]))] := hD
  refine W.widen (k := 10) (n := 644) (Nat.le_refl _) (Nat.le_refl _) ?_
  refine lv_dup hx hb d_B_init_78 rfl ?_
  have hPc := hP.sub (ws' := [(q75, .inr (2, [.null, .null]))]) [10] rfl
  have hDc := hD.sub (ws' := [(q75, .inr (2, [.null, .null]))]) [10] (by decide) rfl
  have hKc := hK.sub (tys' := []) [] rfl
  have hFc := va_free (wc := [(q75, .inr (2, [.null, .null]))]) hD hS hA [10] rfl
  refine va_callv (va_runIN (As := []) (rest := [.ref q75, .ref q]) ⟨hx, hb, hml, hown, ht⟩ (c_P_init l D q75 H.size) ⟨va_cnB 0 ht (gd_T ix_257) rfl rfl rfl hn2 (ht _ ix_31) (by decide +kernel) ⟨Nat.le_of_ble_eq_true rfl, Nat.le_of_ble_eq_true rfl⟩, rfl, ht _ ix_258⟩ ⟨fb_pc, fun U hU hW => ⟨rfl, by rw [hU], by rw [hU]; exact hPc, va_K.moved hW.alike hKc, hDc.weaken (fun _ _ _ _ => trivial)⟩⟩ rfl rfl hl.1 rfl (lv_room (Nat.le_of_ble_eq_true rfl)) d_B_init_79 ⟨Nat.le_of_ble_eq_true rfl, Nat.le_of_ble_eq_true rfl⟩) hS (fun q _ h => hFc q h) hFc (fun u79 t H1 locs ht1 hvm hw hB hz1 hk1 hS => ?_)
  obtain ⟨p3, p4, w3⟩ := u79
  obtain ⟨hP1, hK1, hD1⟩ := hB
  rw [ht1] at hP1
  have hK1 := va_K.moved hvm.symm hK1
  obtain ⟨hP, hD⟩ := va_join (wr := [(q, .inr (0, [.ref q7, .ref q15, .int 0, .int 0, .ref q33, .ref q41, .ref q49, .ref q58, .ref q64, .null, .int 0])), (q7, .inl (k7, 40, .inl (fun _ => 0))), (q15, .inl (k15, 10, .inl (fun _ => 0))), (q33, .inl (k33, 10, .inl (fun _ => 0))), (q41, .inl (k41, 100, .inl (fun _ => 0))), (q49, .inl (k49, 10, .inl (fun _ => 0))), (q58, .inl (k58, 330, .inl (fun _ => 0))), (q64, .inr (1, [.ref p1, .ref p2])), (p1, .inl (w1, 40, .inl (fun _ => 0))), (p2, .inl (w2, 100, .inl (fun _ => 0)))]) (w1 := [(q75, .inr (2, [.ref p3, .ref p4])), (p3, .inl (w3, 133, .inr (.inl (fun _ => 0)))), (p4, .inl (w3, 133, .inr (.inl (fun _ => 0))))]) hP hD [10] [0, 1, 2, 3, 4, 5, 6, 7, 8, 9] rfl rfl (by decide) (by decide) hk1 hFc hP1 hD1
  have hK := hK.app hK1
  generalize H1 = H at hP hS ⊢
  have hP : va_P D classes [(q, .inr (0, [.ref q7, .ref q15, .int 0, .int 0, .ref q33, .ref q41, .ref q49, .ref q58, .ref q64, .null, .int 0])), (q7, .inl (k7, 40, .inl (fun _ => 0))), (q15, .inl (k15, 10, .inl (fun _ => 0))), (q33, .inl (k33, 10, .inl (fun _ => 0))), (q41, .inl (k41, 100, .inl (fun _ => 0))), (q49, .inl (k49, 10, .inl (fun _ => 0))), (q58, .inl (k58, 330, .inl (fun _ => 0))), (q64, .inr (1, [.ref p1, .ref p2])), (p1, .inl (w1, 40, .inl (fun _ => 0))), (p2, .inl (w2, 100, .inl (fun _ => 0))), (q75, .inr (2, [.ref p3, .ref p4])), (p3, .inl (w3, 133, .inr (.inl (fun _ => 0)))), (p4, .inl (w3, 133, .inr (.inl (fun _ => 0))))] H := hP
  have hD : va_D A [(q, .inr (0, [.ref q7, .ref q15, .int 0, .int 0, .ref q33, .ref q41, .ref q49, .ref q58, .ref q64, .null, .int 0])), (q7, .inl (k7, 40, .inl (fun _ => 0))), (q15, .inl (k15, 10, .inl (fun _ => 0))), (q33, .inl (k33, 10, .inl (fun _ => 0))), (q41, .inl (k41, 100, .inl (fun _ => 0))), (q49, .inl (k49, 10, .inl (fun _ => 0))), (q58, .inl (k58, 330, .inl (fun _ => 0))), (q64, .inr (1, [.ref p1, .ref p2])), (p1, .inl (w1, 40, .inl (fun _ => 0))), (p2, .inl (w2, 100, .inl (fun _ => 0))), (q75, .inr (2, [.ref p3, .ref p4])), (p3, .inl (w3, 133, .inr (.inl (fun _ => 0)))), (p4, .inl (w3, 133, .inr (.inl (fun _ => 0))))] := hD
  have hK : va_K D classes [(k7, .int), (k15, .int), (k33, .int), (k41, .int), (k49, .boolean), (k58, .int), (w1, .int), (w2, .int), (w3, .long)] s := hK
  refine W.widen (k := 12) (n := 910) (Nat.le_refl _) (Nat.le_refl _) ?_
  refine va_putF (D := D) (ci := 0) (v := .ref q75) (ty := (.object "BracketSweep$Polynomial")) (C := R_B) (T := F_B) (N := 11) hx hb ht iC_B t_B t_B_ok n_B hown hK hP hD hS 0 rfl rfl 9 (by decide) (ht _ ix_88) (fun _ h9 => h9) rfl hin rfl (by decide +kernel) rfl rfl (Nat.le_of_ble_eq_true rfl) d_B_init_82 (fun H locs hP hD hS => ?_)
  have hP : va_P D classes [(q, .inr (0, [.ref q7, .ref q15, .int 0, .int 0, .ref q33, .ref q41, .ref q49, .ref q58, .ref q64, .ref q75, .int 0])), (q7, .inl (k7, 40, .inl (fun _ => 0))), (q15, .inl (k15, 10, .inl (fun _ => 0))), (q33, .inl (k33, 10, .inl (fun _ => 0))), (q41, .inl (k41, 100, .inl (fun _ => 0))), (q49, .inl (k49, 10, .inl (fun _ => 0))), (q58, .inl (k58, 330, .inl (fun _ => 0))), (q64, .inr (1, [.ref p1, .ref p2])), (p1, .inl (w1, 40, .inl (fun _ => 0))), (p2, .inl (w2, 100, .inl (fun _ => 0))), (q75, .inr (2, [.ref p3, .ref p4])), (p3, .inl (w3, 133, .inr (.inl (fun _ => 0)))), (p4, .inl (w3, 133, .inr (.inl (fun _ => 0))))] H := hP
  have hD : va_D A [(q, .inr (0, [.ref q7, .ref q15, .int 0, .int 0, .ref q33, .ref q41, .ref q49, .ref q58, .ref q64, .ref q75, .int 0])), (q7, .inl (k7, 40, .inl (fun _ => 0))), (q15, .inl (k15, 10, .inl (fun _ => 0))), (q33, .inl (k33, 10, .inl (fun _ => 0))), (q41, .inl (k41, 100, .inl (fun _ => 0))), (q49, .inl (k49, 10, .inl (fun _ => 0))), (q58, .inl (k58, 330, .inl (fun _ => 0))), (q64, .inr (1, [.ref p1, .ref p2])), (p1, .inl (w1, 40, .inl (fun _ => 0))), (p2, .inl (w2, 100, .inl (fun _ => 0))), (q75, .inr (2, [.ref p3, .ref p4])), (p3, .inl (w3, 133, .inr (.inl (fun _ => 0)))), (p4, .inl (w3, 133, .inr (.inl (fun _ => 0))))] := hD
  refine lv_aload_n hx hb d_B_init_85 rfl (lv_at hl 0 rfl) ?_
  refine lv_iconst (v := 0) hx hb d_B_init_86 (by decide) ?_
  refine va_put (D := D) (ci := 0) (v := .int 0) (ty := .boolean) (C := R_B) (T := F_B) (N := 11) hx hb ht iC_B t_B t_B_ok n_B hown hK hP hD hS 0 rfl rfl 10 (by decide) (ht _ ix_39) (fun _ h9 => h9) rfl (by decide +kernel) rfl rfl (Nat.le_of_ble_eq_true rfl) d_B_init_87 (fun H locs hP hD hS => ?_)
  have hP : va_P D classes [(q, .inr (0, [.ref q7, .ref q15, .int 0, .int 0, .ref q33, .ref q41, .ref q49, .ref q58, .ref q64, .ref q75, .int 0])), (q7, .inl (k7, 40, .inl (fun _ => 0))), (q15, .inl (k15, 10, .inl (fun _ => 0))), (q33, .inl (k33, 10, .inl (fun _ => 0))), (q41, .inl (k41, 100, .inl (fun _ => 0))), (q49, .inl (k49, 10, .inl (fun _ => 0))), (q58, .inl (k58, 330, .inl (fun _ => 0))), (q64, .inr (1, [.ref p1, .ref p2])), (p1, .inl (w1, 40, .inl (fun _ => 0))), (p2, .inl (w2, 100, .inl (fun _ => 0))), (q75, .inr (2, [.ref p3, .ref p4])), (p3, .inl (w3, 133, .inr (.inl (fun _ => 0)))), (p4, .inl (w3, 133, .inr (.inl (fun _ => 0))))] H := hP
  have hD : va_D A [(q, .inr (0, [.ref q7, .ref q15, .int 0, .int 0, .ref q33, .ref q41, .ref q49, .ref q58, .ref q64, .ref q75, .int 0])), (q7, .inl (k7, 40, .inl (fun _ => 0))), (q15, .inl (k15, 10, .inl (fun _ => 0))), (q33, .inl (k33, 10, .inl (fun _ => 0))), (q41, .inl (k41, 100, .inl (fun _ => 0))), (q49, .inl (k49, 10, .inl (fun _ => 0))), (q58, .inl (k58, 330, .inl (fun _ => 0))), (q64, .inr (1, [.ref p1, .ref p2])), (p1, .inl (w1, 40, .inl (fun _ => 0))), (p2, .inl (w2, 100, .inl (fun _ => 0))), (q75, .inr (2, [.ref p3, .ref p4])), (p3, .inl (w3, 133, .inr (.inl (fun _ => 0)))), (p4, .inl (w3, 133, .inr (.inl (fun _ => 0))))] := hD
  refine lv_aload_n hx hb d_B_init_90 rfl (lv_at hl 0 rfl) ?_
  have hP : va_P D classes (wB (fun j => [q, q7, q15, q33, q41, q49, q58, q64, p1, p2, q75].getD j 0) (fun j => [w3, k7, k15, k33, k41, k49, k58, w3, w1, w2, w3, w3].getD j w3) (fun _ => 0) (fun _ => 0) 0 0 (fun _ => 0) (fun _ => 0) (fun _ => 0) (fun _ => 0) 0 (fun _ => 0) (fun _ => 0) (fun _ => 0) (fun _ => 0) p3 p4) H := hP
  have hD : va_D A (wB (fun j => [q, q7, q15, q33, q41, q49, q58, q64, p1, p2, q75].getD j 0) (fun j => [w3, k7, k15, k33, k41, k49, k58, w3, w1, w2, w3, w3].getD j w3) (fun _ => 0) (fun _ => 0) 0 0 (fun _ => 0) (fun _ => 0) (fun _ => 0) (fun _ => 0) 0 (fun _ => 0) (fun _ => 0) (fun _ => 0) (fun _ => 0) p3 p4) := hD
  have hK : va_K D classes [((fun j => [w3, k7, k15, k33, k41, k49, k58, w3, w1, w2, w3, w3].getD j w3) 1, .int), ((fun j => [w3, k7, k15, k33, k41, k49, k58, w3, w1, w2, w3, w3].getD j w3) 2, .int), ((fun j => [w3, k7, k15, k33, k41, k49, k58, w3, w1, w2, w3, w3].getD j w3) 3, .int), ((fun j => [w3, k7, k15, k33, k41, k49, k58, w3, w1, w2, w3, w3].getD j w3) 4, .int), ((fun j => [w3, k7, k15, k33, k41, k49, k58, w3, w1, w2, w3, w3].getD j w3) 5, .boolean), ((fun j => [w3, k7, k15, k33, k41, k49, k58, w3, w1, w2, w3, w3].getD j w3) 6, .int), ((fun j => [w3, k7, k15, k33, k41, k49, k58, w3, w1, w2, w3, w3].getD j w3) 8, .int), ((fun j => [w3, k7, k15, k33, k41, k49, k58, w3, w1, w2, w3, w3].getD j w3) 9, .int), ((fun j => [w3, k7, k15, k33, k41, k49, k58, w3, w1, w2, w3, w3].getD j w3) 11, .long)] s := hK
  refine go_Vv (As := []) (rest := []) (wc := (wB (fun j => [q, q7, q15, q33, q41, q49, q58, q64, p1, p2, q75].getD j 0) (fun j => [w3, k7, k15, k33, k41, k49, k58, w3, w1, w2, w3, w3].getD j w3) (fun _ => 0) (fun _ => 0) 0 0 (fun _ => 0) (fun _ => 0) (fun _ => 0) (fun _ => 0) 0 (fun _ => 0) (fun _ => 0) (fun _ => 0) (fun _ => 0) p3 p4)) (wr := []) (w1 := (wB (fun j => [q, q7, q15, q33, q41, q49, q58, q64, p1, p2, q75].getD j 0) (fun j => [w3, k7, k15, k33, k41, k49, k58, w3, w1, w2, w3, w3].getD j w3) (fun _ => 0) (fun _ => 0) 0 0 r.1 (fun _ => 0) (fun _ => 0) (fun _ => 0) r.2 (fun _ => 0) (fun _ => 0) (fun _ => 0) (fun _ => 0) p3 p4)) (w2 := (wB (fun j => [q, q7, q15, q33, q41, q49, q58, q64, p1, p2, q75].getD j 0) (fun j => [w3, k7, k15, k33, k41, k49, k58, w3, w1, w2, w3, w3].getD j w3) (fun _ => 0) (fun _ => 0) 0 0 r.1 (fun _ => 0) (fun _ => 0) (fun _ => 0) r.2 (fun _ => 0) (fun _ => 0) (fun _ => 0) (fun _ => 0) p3 p4)) (tc := [((fun j => [w3, k7, k15, k33, k41, k49, k58, w3, w1, w2, w3, w3].getD j w3) 1, .int), ((fun j => [w3, k7, k15, k33, k41, k49, k58, w3, w1, w2, w3, w3].getD j w3) 2, .int), ((fun j => [w3, k7, k15, k33, k41, k49, k58, w3, w1, w2, w3, w3].getD j w3) 3, .int), ((fun j => [w3, k7, k15, k33, k41, k49, k58, w3, w1, w2, w3, w3].getD j w3) 4, .int), ((fun j => [w3, k7, k15, k33, k41, k49, k58, w3, w1, w2, w3, w3].getD j w3) 5, .boolean), ((fun j => [w3, k7, k15, k33, k41, k49, k58, w3, w1, w2, w3, w3].getD j w3) 6, .int), ((fun j => [w3, k7, k15, k33, k41, k49, k58, w3, w1, w2, w3, w3].getD j w3) 8, .int), ((fun j => [w3, k7, k15, k33, k41, k49, k58, w3, w1, w2, w3, w3].getD j w3) 9, .int), ((fun j => [w3, k7, k15, k33, k41, k49, k58, w3, w1, w2, w3, w3].getD j w3) 11, .long)]) hx hb hml hown ht (c_B_orderAsGiven l D (fun j => [q, q7, q15, q33, q41, q49, q58, q64, p1, p2, q75].getD j 0) (fun j => [w3, k7, k15, k33, k41, k49, k58, w3, w1, w2, w3, w3].getD j w3) H.size (fun _ => 0) (fun _ => 0) 0 0 (fun _ => 0) (fun _ => 0) (fun _ => 0) (fun _ => 0) 0 (fun _ => 0) (fun _ => 0) (fun _ => 0) (fun _ => 0) p3 p4 r hr0) g_B_54 ⟨rfl, rfl⟩ (n := 0) (by decide +kernel) ⟨Nat.le_of_ble_eq_true rfl, Nat.le_of_ble_eq_true rfl⟩ hP hD hK hS hA ⟨Nat.le_of_ble_eq_true rfl, Nat.le_of_ble_eq_true rfl⟩ [0, 1, 2, 3, 4, 5, 6, 7, 8, 9, 10, 11, 12] [] [0, 1, 2, 3, 4, 5, 6, 7, 8] [0, 1, 2, 3, 4, 5, 6, 7, 8, 9, 10, 11, 12] rfl rfl rfl rfl (by decide) (by decide) (by decide) rfl (by decide) 0 rfl rfl rfl rfl rfl hl.1 (Nat.le_of_ble_eq_true rfl) d_B_init_91 (fun H locs hP hD hS => ?_)
  exact W.vret hx hb hr (fun t ht hW => ⟨⟨((fun j => [q, q7, q15, q33, q41, q49, q58, q64, p1, p2, q75].getD j 0), (fun j => [w3, k7, k15, k33, k41, k49, k58, w3, w1, w2, w3, w3].getD j w3), p3, p4), rfl, rfl, by rw [ht]; exact hP, va_K.moved hW.alike hK, hD⟩, hS.F ht⟩) hS.2.2 d_B_init_94 hlk
