/-! THE LAW: every answer agrees, so it never says no -/
def recOK (rec18 : Int32 → (Nat → Int32) → (Nat → Int32) → (Int32) → (Int32) → (Nat → Int32) → (Nat → Int32) → (Nat → Int32) → (Nat → Int32) → (Int32) → (Nat → Int32) → (Nat → Int32) → (Nat → Int64) → (Nat → Int64) → (Nat) → (Nat) → (Int32) → (Int32) → (Nat → Int32) → (Nat → Int32) → (Nat → Int32) → (Nat → Int32) → (Nat → Int32) → (Int32) → (Nat → Int64) → (Nat → Int32) → (Nat → Int64) → (Nat → Int32) → Option Int32) (y : Int32) : Prop := ∀ (lab : Nat → Int32) (sg : Nat → Int32) (cc : Int32) (ci : Int32) (od : Nat → Int32) (sd : Nat → Int32) (go : Nat → Int32) (ta : Nat → Int32) (we : Int32) (oe : Nat → Int32) (fp : Nat → Int32) (ro : Nat → Int64) (sp : Nat → Int64) (qr : Nat) (qs : Nat) (mn : Int32) (mc : Int32) (ms : Nat → Int32) (ml : Nat → Int32) (mm : Nat → Int32) (mt : Nat → Int32) (mo : Nat → Int32) (mk : Int32) (mr : Nat → Int64) (my : Nat → Int32) (mb : Nat → Int64) (mf : Nat → Int32), Rel lab sg cc ci od we ro mn mc ms ml mk mr → rec18 y lab sg cc ci od sd go ta we oe fp ro sp qr qs mn mc ms ml mm mt mo mk mr my mb mf = some 1
set_option maxHeartbeats 4000000 in
theorem law_span (rec18 : Int32 → (Nat → Int32) → (Nat → Int32) → (Int32) → (Int32) → (Nat → Int32) → (Nat → Int32) → (Nat → Int32) → (Nat → Int32) → (Int32) → (Nat → Int32) → (Nat → Int32) → (Nat → Int64) → (Nat → Int64) → (Nat) → (Nat) → (Int32) → (Int32) → (Nat → Int32) → (Nat → Int32) → (Nat → Int32) → (Nat → Int32) → (Nat → Int32) → (Int32) → (Nat → Int64) → (Nat → Int32) → (Nat → Int64) → (Nat → Int32) → Option Int32) (xs : Nat → Int32) (L j : Nat) (hrec : recOK rec18 (nI j + 6)) (g1 : inb (nI j + 1) L = true) (g2 : inb (nI j + 2) L = true) {lab : Nat → Int32} {sg : Nat → Int32} {cc : Int32} {ci : Int32} {od : Nat → Int32} {sd : Nat → Int32} {go : Nat → Int32} {ta : Nat → Int32} {we : Int32} {oe : Nat → Int32} {fp : Nat → Int32} {ro : Nat → Int64} {sp : Nat → Int64} {qr : Nat} {qs : Nat} {mn : Int32} {mc : Int32} {ms : Nat → Int32} {ml : Nat → Int32} {mm : Nat → Int32} {mt : Nat → Int32} {mo : Nat → Int32} {mk : Int32} {mr : Nat → Int64} {my : Nat → Int32} {mb : Nat → Int64} {mf : Nat → Int32} (h : Rel lab sg cc ci od we ro mn mc ms ml mk mr) : (if xs (nI j + 1).toNatClampNeg = 0 then J_law_297 xs L rec18 (nI j) 0 lab sg cc ci od sd go ta we oe fp ro sp qr qs mn mc ms ml mm mt mo mk mr my mb mf else J_law_297 xs L rec18 (nI j) 1 lab sg cc ci od sd go ta we oe fp ro sp qr qs mn mc ms ml mm mt mo mk mr my mb mf) = some 1 := by
  have key : ∀ a b : Int32, Option.bind (F_B_span a b lab sg cc ci od sd ta we oe fp ro sp qr qs) (fun v_1 => J_law_340 xs L rec18 (nI j) b a v_1.1 lab sg cc ci od v_1.2.1 go v_1.2.2.1 v_1.2.2.2.1 v_1.2.2.2.2.1 v_1.2.2.2.2.2.1 v_1.2.2.2.2.2.2.1 v_1.2.2.2.2.2.2.2.1 v_1.2.2.2.2.2.2.2.2.1 v_1.2.2.2.2.2.2.2.2.2 mn mc ms ml mm mt mo mk mr my mb mf) = some 1 := fun a b => by
    obtain ⟨vB, vM, hB, hM, he, hR⟩ := op_span h a b sd ta oe fp sp qr qs mm mt my mb
    rw [hB]
    simp only [Option.bind_some]
    unfold J_law_340
    rw [hM]
    simp only [Option.bind_some]
    rw [if_pos he]
    exact hrec _ _ _ _ _ _ _ _ _ _ _ _ _ _ _ _ _ _ _ _ _ _ _ _ _ _ _ hR
  unfold J_law_297 J_law_310 J_law_327
  simp only [g1, g2, if_true]
  by_cases a : xs (nI j + 1).toNatClampNeg = 0
  · simp only [if_pos a]
    by_cases b : xs (nI j + 2).toNatClampNeg = 0
    · simp only [if_pos b]; exact key 0 0
    · simp only [if_neg b]; exact key 0 1
  · simp only [if_neg a]
    by_cases b : xs (nI j + 2).toNatClampNeg = 0
    · simp only [if_pos b]; exact key 1 0
    · simp only [if_neg b]; exact key 1 1
set_option maxHeartbeats 4000000 in
theorem law_resolve (rec18 : Int32 → (Nat → Int32) → (Nat → Int32) → (Int32) → (Int32) → (Nat → Int32) → (Nat → Int32) → (Nat → Int32) → (Nat → Int32) → (Int32) → (Nat → Int32) → (Nat → Int32) → (Nat → Int64) → (Nat → Int64) → (Nat) → (Nat) → (Int32) → (Int32) → (Nat → Int32) → (Nat → Int32) → (Nat → Int32) → (Nat → Int32) → (Nat → Int32) → (Int32) → (Nat → Int64) → (Nat → Int32) → (Nat → Int64) → (Nat → Int32) → Option Int32) (xs : Nat → Int32) (L j : Nat) (hrec : recOK rec18 (nI j + 6)) (g1 : inb (nI j + 1) L = true) (g2 : inb (nI j + 2) L = true) {lab : Nat → Int32} {sg : Nat → Int32} {cc : Int32} {ci : Int32} {od : Nat → Int32} {sd : Nat → Int32} {go : Nat → Int32} {ta : Nat → Int32} {we : Int32} {oe : Nat → Int32} {fp : Nat → Int32} {ro : Nat → Int64} {sp : Nat → Int64} {qr : Nat} {qs : Nat} {mn : Int32} {mc : Int32} {ms : Nat → Int32} {ml : Nat → Int32} {mm : Nat → Int32} {mt : Nat → Int32} {mo : Nat → Int32} {mk : Int32} {mr : Nat → Int64} {my : Nat → Int32} {mb : Nat → Int64} {mf : Nat → Int32} (h : Rel lab sg cc ci od we ro mn mc ms ml mk mr) : (if xs (nI j + 2).toNatClampNeg = 0 then J_law_423 xs L rec18 (nI j) 0 (xs (nI j + 1).toNatClampNeg) lab sg cc ci od sd go ta we oe fp ro sp qr qs mn mc ms ml mm mt mo mk mr my mb mf else J_law_423 xs L rec18 (nI j) 1 (xs (nI j + 1).toNatClampNeg) lab sg cc ci od sd go ta we oe fp ro sp qr qs mn mc ms ml mm mt mo mk mr my mb mf) = some 1 := by
  have key : ∀ a b : Int32, Option.bind (F_B_resolve a b lab sg cc ci od sd we) (fun v_1 => J_law_445 xs L rec18 (nI j) b a v_1.1 v_1.2.1 v_1.2.2.1 v_1.2.2.2.1 v_1.2.2.2.2.1 v_1.2.2.2.2.2.1 v_1.2.2.2.2.2.2.1 go ta v_1.2.2.2.2.2.2.2 oe fp ro sp qr qs mn mc ms ml mm mt mo mk mr my mb mf) = some 1 := fun a b => by
    obtain ⟨vB, vM, hB, hM, he, hR⟩ := op_resolve h a b sd mf
    rw [hB]
    simp only [Option.bind_some]
    unfold J_law_445
    rw [hM]
    simp only [Option.bind_some]
    rw [if_pos he]
    exact hrec _ _ _ _ _ _ _ _ _ _ _ _ _ _ _ _ _ _ _ _ _ _ _ _ _ _ _ hR
  unfold J_law_423
  simp only [g1, g2, if_true]
  by_cases b : xs (nI j + 2).toNatClampNeg = 0
  · simp only [if_pos b]; exact key _ 0
  · simp only [if_neg b]; exact key _ 1
set_option maxHeartbeats 40000000 in
set_option maxRecDepth 100000 in
theorem law_step (rec18 : Int32 → (Nat → Int32) → (Nat → Int32) → (Int32) → (Int32) → (Nat → Int32) → (Nat → Int32) → (Nat → Int32) → (Nat → Int32) → (Int32) → (Nat → Int32) → (Nat → Int32) → (Nat → Int64) → (Nat → Int64) → (Nat) → (Nat) → (Int32) → (Int32) → (Nat → Int32) → (Nat → Int32) → (Nat → Int32) → (Nat → Int32) → (Nat → Int32) → (Int32) → (Nat → Int64) → (Nat → Int32) → (Nat → Int64) → (Nat → Int32) → Option Int32) (xs : Nat → Int32) (L j : Nat) (hrec : recOK rec18 (nI j + 6)) (g0 : inb (nI j) L = true) (g1 : inb (nI j + 1) L = true) (g2 : inb (nI j + 2) L = true) (g3 : inb (nI j + 3) L = true) (g4 : inb (nI j + 4) L = true) (g5 : inb (nI j + 5) L = true) (hx : ¬ (Int32.ofNat L - (6 : Int32)) < nI j) {lab : Nat → Int32} {sg : Nat → Int32} {cc : Int32} {ci : Int32} {od : Nat → Int32} {sd : Nat → Int32} {go : Nat → Int32} {ta : Nat → Int32} {we : Int32} {oe : Nat → Int32} {fp : Nat → Int32} {ro : Nat → Int64} {sp : Nat → Int64} {qr : Nat} {qs : Nat} {mn : Int32} {mc : Int32} {ms : Nat → Int32} {ml : Nat → Int32} {mm : Nat → Int32} {mt : Nat → Int32} {mo : Nat → Int32} {mk : Int32} {mr : Nat → Int64} {my : Nat → Int32} {mb : Nat → Int64} {mf : Nat → Int32} (h : Rel lab sg cc ci od we ro mn mc ms ml mk mr) : J_law_18 xs L rec18 (nI j) lab sg cc ci od sd go ta we oe fp ro sp qr qs mn mc ms ml mm mt mo mk mr my mb mf = some 1 := by
  unfold J_law_18
  rw [if_neg hx, if_pos g0]
  by_cases o0 : (xs (nI j).toNatClampNeg &&& 15) = 0
  · rw [if_pos o0]
    obtain ⟨vB, vM, hB, hM, he, hR⟩ := op_crossing h (xs (nI j + 1).toNatClampNeg) (xs (nI j + 2).toNatClampNeg) (xs (nI j + 3).toNatClampNeg) (xs (nI j + 4).toNatClampNeg) (xs (nI j + 5).toNatClampNeg)
    rw [if_pos g1, if_pos g2, if_pos g3, if_pos g4, if_pos g5, hB]
    simp only [Option.bind_some]
    rw [if_pos g1, if_pos g2, if_pos g3, if_pos g4, if_pos g5, hM]
    simp only [Option.bind_some]
    rw [if_pos he]
    exact hrec _ _ _ _ _ _ _ _ _ _ _ _ _ _ _ _ _ _ _ _ _ _ _ _ _ _ _ hR
  rw [if_neg o0]
  by_cases o1 : (xs (nI j).toNatClampNeg &&& 15) = 1
  · rw [if_pos o1]
    obtain ⟨vB, vM, hB, hM, he, hR⟩ := op_circles h (xs (nI j + 1).toNatClampNeg)
    rw [if_pos g1, hB]
    simp only [Option.bind_some]
    rw [if_pos g1, hM]
    simp only [Option.bind_some]
    rw [if_pos he]
    exact hrec _ _ _ _ _ _ _ _ _ _ _ _ _ _ _ _ _ _ _ _ _ _ _ _ _ _ _ hR
  rw [if_neg o1]
  by_cases o2 : (xs (nI j).toNatClampNeg &&& 15) = 2
  · rw [if_pos o2]
    obtain ⟨vB, vM, hB, hM, he, hR⟩ := op_clear h
    rw [hB]
    simp only [Option.bind_some]
    rw [hM]
    simp only [Option.bind_some]
    rw [if_pos he]
    exact hrec _ _ _ _ _ _ _ _ _ _ _ _ _ _ _ _ _ _ _ _ _ _ _ _ _ _ _ hR
  rw [if_neg o2]
  by_cases o3 : (xs (nI j).toNatClampNeg &&& 15) = 3
  · rw [if_pos o3]
    obtain ⟨vB, vM, hB, hM, he⟩ := op_fault h sd
    rw [hB]
    simp only [Option.bind_some]
    rw [hM]
    simp only [Option.bind_some]
    rw [if_pos he]
    exact hrec _ _ _ _ _ _ _ _ _ _ _ _ _ _ _ _ _ _ _ _ _ _ _ _ _ _ _ h
  rw [if_neg o3]
  by_cases o4 : (xs (nI j).toNatClampNeg &&& 15) = 4
  · rw [if_pos o4]
    obtain ⟨vB, vM, hB, hM, he, hR⟩ := op_sweep h (xs (nI j + 1).toNatClampNeg) sd go mm mo
    rw [if_pos g1, hB]
    simp only [Option.bind_some]
    rw [if_pos g1, hM]
    simp only [Option.bind_some]
    rw [if_pos he]
    exact hrec _ _ _ _ _ _ _ _ _ _ _ _ _ _ _ _ _ _ _ _ _ _ _ _ _ _ _ hR
  rw [if_neg o4]
  by_cases o5 : (xs (nI j).toNatClampNeg &&& 15) = 5
  · rw [if_pos o5]
    obtain ⟨vB, vM, hB, hM, he, hR⟩ := op_bracket h (xs (nI j + 1).toNatClampNeg) sd ta oe fp sp qr qs mm mt my mb
    rw [if_pos g1, hB]
    simp only [Option.bind_some]
    rw [if_pos g1, hM]
    simp only [Option.bind_some]
    rw [if_pos ((lg_cmp_eq _ _).mpr he)]
    exact hrec _ _ _ _ _ _ _ _ _ _ _ _ _ _ _ _ _ _ _ _ _ _ _ _ _ _ _ hR
  rw [if_neg o5]
  by_cases o6 : (xs (nI j).toNatClampNeg &&& 15) = 6
  · rw [if_pos o6]
    obtain ⟨vB, vM, hB, hM, he, hR⟩ := op_jones h (xs (nI j + 1).toNatClampNeg) sd ta oe fp sp qr qs mm mt my mb
    rw [if_pos g1, hB]
    simp only [Option.bind_some]
    rw [if_pos g1, hM]
    simp only [Option.bind_some]
    rw [if_pos ((lg_cmp_eq _ _).mpr he)]
    exact hrec _ _ _ _ _ _ _ _ _ _ _ _ _ _ _ _ _ _ _ _ _ _ _ _ _ _ _ hR
  rw [if_neg o6]
  by_cases o7 : (xs (nI j).toNatClampNeg &&& 15) = 7
  · rw [if_pos o7]
    rw [if_pos g1]
    exact law_span rec18 xs L j hrec g1 g2 h
  rw [if_neg o7]
  by_cases o8 : (xs (nI j).toNatClampNeg &&& 15) = 8
  · rw [if_pos o8]
    obtain ⟨vB, vM, hB, hM, he⟩ := op_state h (xs (nI j + 1).toNatClampNeg) sd oe fp mm mt
    rw [if_pos g1, hB]
    simp only [Option.bind_some]
    rw [if_pos g1, hM]
    simp only [Option.bind_some]
    rw [if_pos he]
    exact hrec _ _ _ _ _ _ _ _ _ _ _ _ _ _ _ _ _ _ _ _ _ _ _ _ _ _ _ h
  rw [if_neg o8]
  by_cases o9 : (xs (nI j).toNatClampNeg &&& 15) = 9
  · rw [if_pos o9]
    obtain ⟨v, hB, hM⟩ := op_look h (xs (nI j + 1).toNatClampNeg) (xs (nI j + 2).toNatClampNeg)
    rw [if_pos g1, if_pos g2, hB]
    simp only [Option.bind_some]
    rw [if_pos g1, if_pos g2, hM]
    simp only [Option.bind_some]
    rw [if_pos trivial]
    exact hrec _ _ _ _ _ _ _ _ _ _ _ _ _ _ _ _ _ _ _ _ _ _ _ _ _ _ _ h
  rw [if_neg o9]
  by_cases o10 : (xs (nI j).toNatClampNeg &&& 15) = 10
  · rw [if_pos o10]
    rw [if_pos g1, if_pos g2]
    exact law_resolve rec18 xs L j hrec g1 g2 h
  rw [if_neg o10]
  by_cases o11 : (xs (nI j).toNatClampNeg &&& 15) = 11
  · rw [if_pos o11]
    obtain ⟨vB, vM, hB, hM, he, hR⟩ := op_change h (xs (nI j + 1).toNatClampNeg)
    rw [if_pos g1, hB]
    simp only [Option.bind_some]
    rw [if_pos g1, hM]
    simp only [Option.bind_some]
    rw [if_pos he]
    exact hrec _ _ _ _ _ _ _ _ _ _ _ _ _ _ _ _ _ _ _ _ _ _ _ _ _ _ _ hR
  rw [if_neg o11]
  by_cases o12 : (xs (nI j).toNatClampNeg &&& 15) = 12
  · rw [if_pos o12]
    obtain ⟨vB, vM, hB, hM, he, hR⟩ := op_move h (xs (nI j + 1).toNatClampNeg) (xs (nI j + 2).toNatClampNeg)
    rw [if_pos g1, if_pos g2, hB]
    simp only [Option.bind_some]
    rw [if_pos g1, if_pos g2, hM]
    simp only [Option.bind_some]
    rw [if_pos he]
    exact hrec _ _ _ _ _ _ _ _ _ _ _ _ _ _ _ _ _ _ _ _ _ _ _ _ _ _ _ hR
  rw [if_neg o12]
  exact hrec _ _ _ _ _ _ _ _ _ _ _ _ _ _ _ _ _ _ _ _ _ _ _ _ _ _ _ h
set_option maxHeartbeats 4000000 in
theorem law_loop (xs : Nat → Int32) (L : Nat) (hL : L ≤ 3072) : ∀ (m j : Nat) (lab : Nat → Int32) (sg : Nat → Int32) (cc : Int32) (ci : Int32) (od : Nat → Int32) (sd : Nat → Int32) (go : Nat → Int32) (ta : Nat → Int32) (we : Int32) (oe : Nat → Int32) (fp : Nat → Int32) (ro : Nat → Int64) (sp : Nat → Int64) (qr : Nat) (qs : Nat) (mn : Int32) (mc : Int32) (ms : Nat → Int32) (ml : Nat → Int32) (mm : Nat → Int32) (mt : Nat → Int32) (mo : Nat → Int32) (mk : Int32) (mr : Nat → Int64) (my : Nat → Int32) (mb : Nat → Int64) (mf : Nat → Int32), j ≤ L + 6 → L < j + 6 * m + 6 → Rel lab sg cc ci od we ro mn mc ms ml mk mr → L_law_18 xs L (m + 1) (nI j) lab sg cc ci od sd go ta we oe fp ro sp qr qs mn mc ms ml mm mt mo mk mr my mb mf = some 1 := by
  have eL : Int32.ofNat L - (6 : Int32) = iI ((L : Int) - 6) := by
    rw [show Int32.ofNat L = nI L from rfl, nI_iI, show (6 : Int32) = iI 6 from rfl, iI_sub]
  intro m
  induction m with
  | zero =>
    intro j lab sg cc ci od sd go ta we oe fp ro sp qr qs mn mc ms ml mm mt mo mk mr my mb mf h1 h2 h
    show J_law_18 xs L (L_law_18 xs L 0) (nI j) lab sg cc ci od sd go ta we oe fp ro sp qr qs mn mc ms ml mm mt mo mk mr my mb mf = some 1
    unfold J_law_18
    rw [if_pos (by rw [eL, nI_iI j, lt_i (by omega) (by omega) (by omega) (by omega)]; omega)]
  | succ m ih =>
    intro j lab sg cc ci od sd go ta we oe fp ro sp qr qs mn mc ms ml mm mt mo mk mr my mb mf h1 h2 h
    show J_law_18 xs L (L_law_18 xs L (m + 1)) (nI j) lab sg cc ci od sd go ta we oe fp ro sp qr qs mn mc ms ml mm mt mo mk mr my mb mf = some 1
    by_cases q : (L : Int) - 6 < j
    · unfold J_law_18
      rw [if_pos (by rw [eL, nI_iI j, lt_i (by omega) (by omega) (by omega) (by omega)]; exact q)]
    · have gg : ∀ c : Nat, c < 6 → inb (nI j + nI c) L = true := fun c hc => by
        rw [nI_add]
        exact inb_nI (by omega) (by omega)
      refine law_step (L_law_18 xs L (m + 1)) xs L j (fun lab sg cc ci od sd go ta we oe fp ro sp qr qs mn mc ms ml mm mt mo mk mr my mb mf hR => ?_) (inb_nI (by omega) (by omega)) (gg 1 (by omega)) (gg 2 (by omega)) (gg 3 (by omega)) (gg 4 (by omega)) (gg 5 (by omega)) (by rw [eL, nI_iI j, lt_i (by omega) (by omega) (by omega) (by omega)]; exact q) h
      rw [show nI j + (6 : Int32) = nI (j + 6) from nI_add j 6]
      exact ih (j + 6) _ _ _ _ _ _ _ _ _ _ _ _ _ _ _ _ _ _ _ _ _ _ _ _ _ _ _ (by omega) (by omega) hR
theorem pure_law (xs : Nat → Int32) (L : Nat) (hL : L ≤ 3072) (r0 : (Nat → Int32) × Int32) (hr0 : F_B_orderAsGiven (fun _ => 0) 0 = some r0) (qr qs : Nat) : L_law_18 xs L fu 0 (fun _ => 0) (fun _ => 0) 0 0 r0.1 (fun _ => 0) (fun _ => 0) (fun _ => 0) r0.2 (fun _ => 0) (fun _ => 0) (fun _ => 0) (fun _ => 0) qr qs 0 0 (fun _ => 0) (fun _ => 0) (fun _ => 0) (fun _ => 0) (fun _ => 0) 0 (fun _ => 0) (fun _ => 0) (fun _ => 0) (fun _ => 0) = some 1 := by
  have e : r0 = (idO (fun _ => 0), 0) := Option.some.inj (hr0.symm.trans (F_order _ _))
  subst e
  refine law_loop xs L hL 4999 0 _ _ _ _ _ _ _ _ _ _ _ _ _ _ _ _ _ _ _ _ _ _ _ _ _ _ _ (by omega) (by omega) ⟨0, 0, fun _ => 0, by omega, by omega, rfl, rfl, rfl, rfl, fun i hi => by omega, fun i hi => by omega, fun k hk => by omega, ordOK_id (by omega) _, Or.inl rfl, Or.inl rfl⟩
