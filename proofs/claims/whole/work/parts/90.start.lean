theorem is_n1 : Cond.methodLinkNest R_B 38 y_W_init "BracketSweep" ∈ lw_tbl := List.mem_of_getElem? (i := 48) (by decide +kernel)
theorem is_n2 : Cond.methodLinkNest R_B 45 y_P_init "BracketSweep" ∈ lw_tbl := List.mem_of_getElem? (i := 63) (by decide +kernel)
theorem is_0 : Cond.instantiable R_B 11 ∈ lw_g := lg_in (List.mem_of_getElem? (i := 39) (by decide +kernel)) rfl
theorem is_1 : Cond.instantiable R_M 13 ∈ lw_g := lg_in (List.mem_of_getElem? (i := 302) (by decide +kernel)) rfl
theorem is_2 : Cond.classLink R_law 7 R_B ∈ lw_g := lg_in (List.mem_of_getElem? (i := 38) (by decide +kernel)) rfl
theorem is_3 : Cond.code y_B_init b_B_init 1 none ∈ lw_g := lg_in (List.mem_of_getElem? (i := 42) (by decide +kernel)) rfl
theorem is_4 : Cond.methodLink R_law 9 y_B_init ∈ lw_g := lg_in (List.mem_of_getElem? (i := 40) (by decide +kernel)) rfl
theorem is_5 : Cond.instanceMethod y_B_init ∈ lw_g := lg_in (List.mem_of_getElem? (i := 41) (by decide +kernel)) rfl
theorem is_6 : Cond.classLink R_law 10 R_M ∈ lw_g := lg_in (List.mem_of_getElem? (i := 301) (by decide +kernel)) rfl
theorem is_7 : Cond.code y_M_init b_M_init 1 none ∈ lw_g := lg_in (List.mem_of_getElem? (i := 305) (by decide +kernel)) rfl
theorem is_8 : Cond.methodLink R_law 12 y_M_init ∈ lw_g := lg_in (List.mem_of_getElem? (i := 303) (by decide +kernel)) rfl
theorem is_9 : Cond.instanceMethod y_M_init ∈ lw_g := lg_in (List.mem_of_getElem? (i := 304) (by decide +kernel)) rfl
set_option maxHeartbeats 40000000 in
set_option maxRecDepth 100000 in
theorem whole_start {p : Program} {e : Env} {s : State} {m : MethodId} {below : List Frame} {meth : Method} {c : Code} (l : Launch) {b L : Nat} {xs : Nat → Int32} (hL : L ≤ 3072) (C0 : lw_At p s m meth c b L xs) : W p l e room_1 s m #[Value.ref b] below meth c s.heap [] 0 0 (lw_Z below #[Value.ref b] s) (entryFrame m ([Value.ref b] : List Value).toArray 4) := by
  obtain ⟨hx, hb, hr, hml, hown, hts, hX, hbl, hlk, hgv⟩ := id C0
  have ht : ∀ w ∈ lw_g, w.before #[Value.ref b] s = true := fun w h => hts w (List.mem_filter.mp h).1
  have hn1 : va_Nw (.methodLinkNest R_B 38 y_W_init "BracketSweep") s := va_Nw.of rfl (hts _ is_n1)
  have hn2 : va_Nw (.methodLinkNest R_B 45 y_P_init "BracketSweep") s := va_Nw.of rfl (hts _ is_n2)
  obtain ⟨c0, iS0, hKn0⟩ := u_known (C := R_B) (T := F_B) (N := 11) (n := 11) ht iC_B (ht _ is_0)
  obtain ⟨c1, iS1, hKn1⟩ := u_known (C := R_W) (T := F_W) (N := 2) (n := 2) ht iC_W (ht _ ix_252)
  obtain ⟨c2, iS2, hKn2⟩ := u_known (C := R_P) (T := F_P) (N := 2) (n := 2) ht iC_P (ht _ ix_256)
  obtain ⟨c3, iS3, hKn3⟩ := u_known (C := R_M) (T := F_M) (N := 13) (n := 13) ht iC_M (ht _ is_1)
  obtain ⟨D, hKc⟩ : ∃ D : va_G, ∀ (k : Nat) (q : vw_C), classes[k]? = some q → u_Kn s q.1 q.2.1 q.2.2 (D.1 k) (D.2 k) := by
    refine ⟨(fun k => match k with | 0 => c0 | 1 => c1 | 2 => c2 | _ => c3, fun k => match k with | 0 => iS0 | 1 => iS1 | 2 => iS2 | _ => iS3), ?_⟩
    intro k q hq
    match k, hq with
    | 0, hq => cases hq; exact hKn0
    | 1, hq => cases hq; exact hKn1
    | 2, hq => cases hq; exact hKn2
    | 3, hq => cases hq; exact hKn3
    | k + 4, hq => simp [classes] at hq
  generalize hAe : (fun q : Nat => s.heap.size ≤ q) = A
  have hAA : ∀ q : Nat, s.heap.size ≤ q ↔ A q := fun q => by rw [← hAe]
  have hA : ∀ q : Nat, s.heap.size ≤ q → A q := fun q h => (hAA q).mp h
  have hS : va_S A s.heap s.heap [] := va_S.rf
  have hK : va_K D classes [] s := ⟨hKc, fun k q h => by simp at h⟩
  have hP : va_P D classes [] s.heap := fun k q h => by simp at h
  have hD : va_D A [] := ⟨fun i j p q h => by simp at h, fun k q h => by simp at h⟩
  have hl := lv_entry ([.ref b]) (n := 4) (Nat.le_of_ble_eq_true rfl)
  rw [lg_entry_eq]
  generalize (lg_sl ([.ref b]) ++ List.replicate (4 - (lg_sl ([.ref b])).length) Slot.unset).toArray = ls at hl ⊢
  have hl : lv_has ls 4 [(0, .ref b)] := hl
  obtain ⟨r0, hr0⟩ := pure_order
  refine va_new (ci := 0) (fs := [.null, .null, .int 0, .int 0, .null, .null, .null, .null, .null, .null, .int 0]) (C := R_B) (T := F_B) (N := 11) hx hb ht iC_B t_B t_B_ok hown (ht _ is_2) (ht _ is_0) (ht _ ix_46) hK hP hD hS hA rfl (fun j hj => by rcases (show j = 0 ∨ j = 1 ∨ j = 2 ∨ j = 3 ∨ j = 4 ∨ j = 5 ∨ j = 6 ∨ j = 7 ∨ j = 8 ∨ j = 9 ∨ j = 10 by omega) with rfl | rfl | rfl | rfl | rfl | rfl | rfl | rfl | rfl | rfl | rfl <;> rfl) (Nat.le_of_ble_eq_true rfl) (Nat.le_of_ble_eq_true rfl) d_law_0 (fun q0 H hP hD hS => ?_)
  have hP : va_P D classes [(q0, .inr (0, [.null, .null, .int 0, .int 0, .null, .null, .null, .null, .null, .null, .int 0]))] H := hP
  have hD : va_D A [(q0, .inr (0, [.null, .null, .int 0, .int 0, .null, .null, .null, .null, .null, .null, .int 0]))] := hD
  refine W.widen (k := 1) (n := 11) (Nat.le_of_ble_eq_true rfl) (Nat.le_of_ble_eq_true rfl) ?_
  refine lv_dup hx hb d_law_3 rfl ?_
  have hFc := va_free (wc := [(q0, .inr (0, [.null, .null, .int 0, .int 0, .null, .null, .null, .null, .null, .null, .int 0]))]) hD hS hA [0] rfl
  refine va_callv (va_runI (As := []) (rest := [.ref q0]) ⟨hx, hb, hml, hown, ht⟩ (c_B_init l D q0 H.size r0 hr0) (cwI 0 ht (gd_T is_3) rfl rfl rfl (ht _ ix_46) (ht _ is_4) (ht _ is_5) rfl (by decide +kernel) ⟨Nat.le_of_ble_eq_true rfl, Nat.le_of_ble_eq_true rfl⟩) ⟨fun a U g mk q => by obtain ⟨e0, ⟨e1, qP, qK, qD⟩, w1, w2⟩ := q; exact ⟨e0, ⟨e1, qP, va_K.moved (u := U) (U := U.calling g mk a) (Vm.Alike.refl U.vm) qK, qD⟩, va_Nw.same rfl rfl w1, va_Nw.same rfl rfl w2⟩, fun U hU hW => ⟨rfl, ⟨by rw [hU], by rw [hU]; exact hP, va_K.moved hW.alike hK, hD.weaken (fun _ _ _ _ => trivial)⟩, va_Nw.warmM hW hn1, va_Nw.warmM hW hn2⟩⟩ rfl rfl hl.1 rfl (lv_room (Nat.le_of_ble_eq_true rfl)) d_law_4 ⟨Nat.le_of_ble_eq_true rfl, Nat.le_of_ble_eq_true rfl⟩) hS (fun q _ h => hFc q h) hFc (fun u t H1 locs ht1 hvm hw hB hz1 hk1 hS => ?_)
  obtain ⟨a1, k1, qr, qs⟩ := u
  have hw : a1 0 = q0 := hw
  subst hw
  obtain ⟨hP1, hK1, hD1⟩ := hB
  rw [ht1] at hP1
  have hK1 := va_K.moved hvm.symm hK1
  obtain ⟨hP, hD⟩ := va_join (wr := []) (w1 := (wB a1 k1 (fun _ => 0) (fun _ => 0) 0 0 r0.1 (fun _ => 0) (fun _ => 0) (fun _ => 0) r0.2 (fun _ => 0) (fun _ => 0) (fun _ => 0) (fun _ => 0) qr qs)) hP hD [0] [] rfl rfl (by decide) (by decide) hk1 hFc hP1 hD1
  have hK := (hK.sub (tys' := []) [] rfl).app hK1
  generalize H1 = H at hP hS ⊢
  have hP : va_P D classes (wB a1 k1 (fun _ => 0) (fun _ => 0) 0 0 r0.1 (fun _ => 0) (fun _ => 0) (fun _ => 0) r0.2 (fun _ => 0) (fun _ => 0) (fun _ => 0) (fun _ => 0) qr qs) H := hP
  have hD : va_D A (wB a1 k1 (fun _ => 0) (fun _ => 0) 0 0 r0.1 (fun _ => 0) (fun _ => 0) (fun _ => 0) r0.2 (fun _ => 0) (fun _ => 0) (fun _ => 0) (fun _ => 0) qr qs) := hD
  have hK : va_K D classes [(k1 1, .int), (k1 2, .int), (k1 3, .int), (k1 4, .int), (k1 5, .boolean), (k1 6, .int), (k1 8, .int), (k1 9, .int), (k1 11, .long)] s := hK
  refine W.widen (k := 13) (n := 921) (Nat.le_of_ble_eq_true rfl) (Nat.le_of_ble_eq_true rfl) ?_
  refine lv_astore_n (lv' := [(1, .ref (a1 0)), (0, .ref b)]) hx hb d_law_7 rfl hl (by decide) rfl (fun ls hl => ?_)
  refine va_new (ci := 3) (fs := [.int 0, .int 0, .int 0, .null, .null, .null, .null, .null, .int 0, .null, .null, .null, .null]) (C := R_M) (T := F_M) (N := 13) hx hb ht iC_M t_M t_M_ok hown (ht _ is_6) (ht _ is_1) (ht _ ix_167) hK hP hD hS hA rfl (fun j hj => by rcases (show j = 0 ∨ j = 1 ∨ j = 2 ∨ j = 3 ∨ j = 4 ∨ j = 5 ∨ j = 6 ∨ j = 7 ∨ j = 8 ∨ j = 9 ∨ j = 10 ∨ j = 11 ∨ j = 12 by omega) with rfl | rfl | rfl | rfl | rfl | rfl | rfl | rfl | rfl | rfl | rfl | rfl | rfl <;> rfl) (Nat.le_of_ble_eq_true rfl) (Nat.le_of_ble_eq_true rfl) d_law_8 (fun q1 H hP hD hS => ?_)
  refine W.widen (k := 14) (n := 934) (Nat.le_of_ble_eq_true rfl) (Nat.le_of_ble_eq_true rfl) ?_
  refine lv_dup hx hb d_law_11 rfl ?_
  have hPc := hP.sub (ws' := [(q1, .inr (3, [.int 0, .int 0, .int 0, .null, .null, .null, .null, .null, .int 0, .null, .null, .null, .null]))]) [13] rfl
  have hDc := hD.sub (ws' := [(q1, .inr (3, [.int 0, .int 0, .int 0, .null, .null, .null, .null, .null, .int 0, .null, .null, .null, .null]))]) [13] (by decide) rfl
  have hKc := hK.sub (tys' := []) [] rfl
  have hFc := va_free (wc := [(q1, .inr (3, [.int 0, .int 0, .int 0, .null, .null, .null, .null, .null, .int 0, .null, .null, .null, .null]))]) hD hS hA [13] rfl
  refine va_callv (va_runI (As := []) (rest := [.ref q1]) ⟨hx, hb, hml, hown, ht⟩ (c_M_init l D q1 H.size) (cwI 0 ht (gd_T is_7) rfl rfl rfl (ht _ ix_167) (ht _ is_8) (ht _ is_9) rfl (by decide +kernel) ⟨Nat.le_of_ble_eq_true rfl, Nat.le_of_ble_eq_true rfl⟩) ⟨fb_pc, fun U hU hW => ⟨rfl, by rw [hU], by rw [hU]; exact hPc, va_K.moved hW.alike hKc, hDc.weaken (fun _ _ _ _ => trivial)⟩⟩ rfl rfl hl.1 rfl (lv_room (Nat.le_of_ble_eq_true rfl)) d_law_12 ⟨Nat.le_of_ble_eq_true rfl, Nat.le_of_ble_eq_true rfl⟩) hS (fun q _ h => hFc q h) hFc (fun u t H1 locs ht1 hvm hw hB hz1 hk1 hS => ?_)
  obtain ⟨a2, k2⟩ := u
  have hw : a2 20 = q1 := hw
  subst hw
  obtain ⟨hP1, hK1, hD1⟩ := hB
  rw [ht1] at hP1
  have hK1 := va_K.moved hvm.symm hK1
  obtain ⟨hP, hD⟩ := va_join (wr := (wB a1 k1 (fun _ => 0) (fun _ => 0) 0 0 r0.1 (fun _ => 0) (fun _ => 0) (fun _ => 0) r0.2 (fun _ => 0) (fun _ => 0) (fun _ => 0) (fun _ => 0) qr qs)) (w1 := (wM a2 k2 0 0 0 (fun _ => 0) (fun _ => 0) (fun _ => 0) (fun _ => 0) (fun _ => 0) 0 (fun _ => 0) (fun _ => 0) (fun _ => 0) (fun _ => 0))) hP hD [13] [0, 1, 2, 3, 4, 5, 6, 7, 8, 9, 10, 11, 12] rfl rfl (by decide) (by decide) hk1 hFc hP1 hD1
  have hK := hK.app hK1
  generalize H1 = H at hP hS ⊢
  have hP : va_P D classes (wX (fun j => if j < 20 then a1 j else a2 j) (fun j => if j < 20 then k1 j else k2 j) (fun _ => 0) (fun _ => 0) 0 0 r0.1 (fun _ => 0) (fun _ => 0) (fun _ => 0) r0.2 (fun _ => 0) (fun _ => 0) (fun _ => 0) (fun _ => 0) qr qs 0 0 0 (fun _ => 0) (fun _ => 0) (fun _ => 0) (fun _ => 0) (fun _ => 0) 0 (fun _ => 0) (fun _ => 0) (fun _ => 0) (fun _ => 0)) H := hP
  have hD : va_D A (wX (fun j => if j < 20 then a1 j else a2 j) (fun j => if j < 20 then k1 j else k2 j) (fun _ => 0) (fun _ => 0) 0 0 r0.1 (fun _ => 0) (fun _ => 0) (fun _ => 0) r0.2 (fun _ => 0) (fun _ => 0) (fun _ => 0) (fun _ => 0) qr qs 0 0 0 (fun _ => 0) (fun _ => 0) (fun _ => 0) (fun _ => 0) (fun _ => 0) 0 (fun _ => 0) (fun _ => 0) (fun _ => 0) (fun _ => 0)) := hD
  have hK : va_K D classes [((fun j => if j < 20 then k1 j else k2 j) 1, .int), ((fun j => if j < 20 then k1 j else k2 j) 2, .int), ((fun j => if j < 20 then k1 j else k2 j) 3, .int), ((fun j => if j < 20 then k1 j else k2 j) 4, .int), ((fun j => if j < 20 then k1 j else k2 j) 5, .boolean), ((fun j => if j < 20 then k1 j else k2 j) 6, .int), ((fun j => if j < 20 then k1 j else k2 j) 8, .int), ((fun j => if j < 20 then k1 j else k2 j) 9, .int), ((fun j => if j < 20 then k1 j else k2 j) 11, .long), ((fun j => if j < 20 then k1 j else k2 j) 21, .int), ((fun j => if j < 20 then k1 j else k2 j) 22, .int), ((fun j => if j < 20 then k1 j else k2 j) 23, .int), ((fun j => if j < 20 then k1 j else k2 j) 24, .boolean), ((fun j => if j < 20 then k1 j else k2 j) 25, .boolean), ((fun j => if j < 20 then k1 j else k2 j) 26, .long), ((fun j => if j < 20 then k1 j else k2 j) 27, .int), ((fun j => if j < 20 then k1 j else k2 j) 28, .long), ((fun j => if j < 20 then k1 j else k2 j) 29, .int)] s := hK
  refine W.widen (k := 600000) (n := 7302250) (Nat.le_of_ble_eq_true rfl) (Nat.le_of_ble_eq_true rfl) ?_
  refine lv_astore_n (lv' := [(2, .ref (a2 20)), (1, .ref (a1 0)), (0, .ref b)]) hx hb d_law_15 rfl hl (by decide) rfl (fun ls hl => ?_)
  refine lv_iconst (v := 0) hx hb d_law_16 (by decide) ?_
  refine lv_istore_n (lv' := [(3, .int 0), (2, .ref (a2 20)), (1, .ref (a1 0)), (0, .ref b)]) hx hb d_law_17 rfl hl (by decide) rfl (fun ls hl => ?_)
  exact k_law_18_L (a := fun j => if j < 20 then a1 j else a2 j) (k := fun j => if j < 20 then k1 j else k2 j) ⟨C0, hK, hAA⟩ fu 0 (fun _ => 0) (fun _ => 0) 0 0 r0.1 (fun _ => 0) (fun _ => 0) (fun _ => 0) r0.2 (fun _ => 0) (fun _ => 0) (fun _ => 0) (fun _ => 0) qr qs 0 0 (fun _ => 0) (fun _ => 0) (fun _ => 0) (fun _ => 0) (fun _ => 0) 0 (fun _ => 0) (fun _ => 0) (fun _ => 0) (fun _ => 0) (pure_law xs L hL r0 hr0 qr qs) _ _ _ hP hD hS (lv_sub hl [3, 2, 1, 0] rfl)
