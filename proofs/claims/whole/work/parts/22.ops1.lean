/-! THE TWO SIDES TOGETHER -/
def sgOK (n : Nat) (sg ms : Nat → Int32) : Prop := ∀ k, k < n → sg k = ms k ∧ (sg k = 1 ∨ sg k = -1)
def Rel (lab sg : Nat → Int32) (cc ci : Int32) (od : Nat → Int32) (we : Int32) (ro : Nat → Int64) (mn mc : Int32) (ms ml : Nat → Int32) (mk : Int32) (mr : Nat → Int64) : Prop :=
  ∃ (n z : Nat) (lb : Nat → Nat), n ≤ 10 ∧ z ≤ 9 ∧ cc = nI n ∧ mn = nI n ∧ ci = nI z ∧ mc = nI z ∧ labs n lab lb ∧ labs n ml lb ∧ sgOK n sg ms ∧ ordOK n od ∧ (we = 0 ∨ (we = 1 ∧ repL (Pol n z lb) ro)) ∧ (mk = 0 ∨ (mk = 1 ∧ repM (Pol n z lb) mr))
theorem ordL_id (od : Nat → Int32) : ∀ (r s : Nat), s + r ≤ 10 → ordL (idO od) s (List.range' s r)
  | 0, s, _ => trivial
  | r + 1, s, h => by
    rw [List.range'_succ]
    exact ⟨if_pos (by omega), ordL_id od r (s + 1) (by omega)⟩
theorem ordOK_id {n : Nat} (hn : n ≤ 10) (od : Nat → Int32) : ordOK n (idO od) := ⟨List.range n, List.Perm.refl _, by rw [List.range_eq_range']; exact ordL_id od n 0 (by omega)⟩
theorem lt1 (x : Int32) : (x < (1 : Int32)) = (x.toInt < 1) := propext Int32.lt_iff_toInt_lt
theorem gt99 (x : Int32) : ((99 : Int32) < x) = (99 < x.toInt) := propext Int32.lt_iff_toInt_lt
theorem le0 (x : Int32) : (x ≤ (0 : Int32)) = (x.toInt ≤ 0) := propext Int32.le_iff_toInt_le
theorem ge100 (x : Int32) : ((100 : Int32) ≤ x) = (100 ≤ x.toInt) := propext Int32.le_iff_toInt_le
theorem lt0 (x : Int32) : (x < (0 : Int32)) = (x.toInt < 0) := propext Int32.lt_iff_toInt_lt
theorem le9 (x : Int32) : (x ≤ (9 : Int32)) = (x.toInt ≤ 9) := propext Int32.le_iff_toInt_le
theorem one_ne : ((1 : Int32) = 0) = False := eq_false (by decide)
def okl (x : Int32) : Prop := 1 ≤ x.toInt ∧ x.toInt ≤ 99
theorem okl_nI {x : Int32} (h : okl x) : x = nI x.toInt.toNat ∧ 1 ≤ x.toInt.toNat ∧ x.toInt.toNat < 100 := by
  obtain ⟨h1, h2⟩ := h
  refine ⟨?_, by omega, by omega⟩
  rw [nI_iI, show ((x.toInt.toNat : Nat) : Int) = x.toInt by omega, iI_self]
theorem F_isLabel1 {x : Int32} (h : okl x) : F_B_isLabel x = some 1 := by
  show J_B_isLabel_0 x = _
  unfold J_B_isLabel_0
  obtain ⟨h1, h2⟩ := h
  simp only [lt1, gt99]
  rw [if_neg (by omega), if_neg (by omega)]
theorem F_isLabel0 {x : Int32} (h : ¬ okl x) : F_B_isLabel x = some 0 := by
  show J_B_isLabel_0 x = _
  unfold J_B_isLabel_0
  unfold okl at h
  simp only [lt1, gt99]
  by_cases q : x.toInt < 1
  · rw [if_pos q]
  · rw [if_neg q, if_pos (by omega)]
theorem M_cross48 (x1 x2 x3 x4 x5 mn : Int32) (ms ml : Nat → Int32) (mk : Int32) : J_M_crossing_48 x1 x2 x3 x4 x5 mn ms ml mk = some (-1, mn, ms, ml, mk) := by
  unfold J_M_crossing_48 J_M_crossing_49 J_M_crossing_61
  by_cases s1 : x1 = 1
  · rw [if_pos s1, if_pos rfl]
  · rw [if_neg s1]
    by_cases s2 : x1 = -1
    · rw [if_pos s2, if_pos rfl]
    · rw [if_neg s2]
theorem M_crossB {x2 x3 x4 x5 : Int32} (h : ¬ (okl x2 ∧ okl x3 ∧ okl x4 ∧ okl x5)) (x1 mn : Int32) (ms ml : Nat → Int32) (mk : Int32) : F_M_crossing x1 x2 x3 x4 x5 mn ms ml mk = some (-1, mn, ms, ml, mk) := by
  show J_M_crossing_0 x1 x2 x3 x4 x5 mn ms ml mk = _
  unfold J_M_crossing_0
  simp only [M_cross48, le0, ge100]
  unfold okl at h
  repeat' split
  all_goals first | rfl | omega
theorem M_crossG {x2 x3 x4 x5 : Int32} (h2 : okl x2) (h3 : okl x3) (h4 : okl x4) (h5 : okl x5) (x1 mn : Int32) (ms ml : Nat → Int32) (mk : Int32) : F_M_crossing x1 x2 x3 x4 x5 mn ms ml mk = J_M_crossing_49 x1 x2 x3 x4 x5 1 mn ms ml mk := by
  show J_M_crossing_0 x1 x2 x3 x4 x5 mn ms ml mk = _
  unfold J_M_crossing_0
  obtain ⟨a1, a2⟩ := h2
  obtain ⟨b1, b2⟩ := h3
  obtain ⟨c1, c2⟩ := h4
  obtain ⟨d1, d2⟩ := h5
  simp only [le0, ge100]
  rw [if_neg (by omega), if_neg (by omega), if_neg (by omega), if_neg (by omega), if_neg (by omega), if_neg (by omega), if_neg (by omega), if_neg (by omega)]
theorem B_crossB {x2 x3 x4 x5 : Int32} (h : ¬ (okl x2 ∧ okl x3 ∧ okl x4 ∧ okl x5)) (x1 : Int32) (lab sg : Nat → Int32) (cc : Int32) (od : Nat → Int32) (we : Int32) : J_B_crossing_12 x1 x2 x3 x4 x5 lab sg cc od we = some (-1, lab, sg, cc, od, we) := by
  unfold J_B_crossing_12
  by_cases h2 : okl x2
  · rw [F_isLabel1 h2]
    simp only [Option.bind_some]
    rw [if_neg (by decide)]
    by_cases h3 : okl x3
    · rw [F_isLabel1 h3]
      simp only [Option.bind_some]
      rw [if_neg (by decide)]
      by_cases h4 : okl x4
      · rw [F_isLabel1 h4]
        simp only [Option.bind_some]
        rw [if_neg (by decide)]
        by_cases h5 : okl x5
        · exact absurd ⟨h2, h3, h4, h5⟩ h
        · rw [F_isLabel0 h5]
          rfl
      · rw [F_isLabel0 h4]
        rfl
    · rw [F_isLabel0 h3]
      rfl
  · rw [F_isLabel0 h2]
    rfl
theorem labs_add {n : Nat} {lab : Nat → Int32} {lb : Nat → Nat} (l : labs n lab lb) {x2 x3 x4 x5 : Int32} (o2 : okl x2) (o3 : okl x3) (o4 : okl x4) (o5 : okl x5) : labs (n + 1) (upd (upd (upd (upd lab (4 * n) x2) (4 * n + 1) x3) (4 * n + 2) x4) (4 * n + 3) x5) (fun j => if j < 4 * n then lb j else if j = 4 * n then x2.toInt.toNat else if j = 4 * n + 1 then x3.toInt.toNat else if j = 4 * n + 2 then x4.toInt.toNat else x5.toInt.toNat) := by
  intro j hj
  simp only [upd]
  by_cases j0 : j < 4 * n
  · simp only [if_neg (show ¬ j = 4 * n + 3 by omega), if_neg (show ¬ j = 4 * n + 2 by omega), if_neg (show ¬ j = 4 * n + 1 by omega), if_neg (show ¬ j = 4 * n by omega), if_pos j0]
    exact l j j0
  · by_cases j1 : j = 4 * n
    · simp only [if_neg (show ¬ j = 4 * n + 3 by omega), if_neg (show ¬ j = 4 * n + 2 by omega), if_neg (show ¬ j = 4 * n + 1 by omega), if_pos j1, if_neg j0]
      exact okl_nI o2
    · by_cases j2 : j = 4 * n + 1
      · simp only [if_neg (show ¬ j = 4 * n + 3 by omega), if_neg (show ¬ j = 4 * n + 2 by omega), if_pos j2, if_neg j1, if_neg j0]
        exact okl_nI o3
      · by_cases j3 : j = 4 * n + 2
        · simp only [if_neg (show ¬ j = 4 * n + 3 by omega), if_pos j3, if_neg j2, if_neg j1, if_neg j0]
          exact okl_nI o4
        · simp only [if_pos (show j = 4 * n + 3 by omega), if_neg j3, if_neg j2, if_neg j1, if_neg j0]
          exact okl_nI o5
theorem op_crossing {lab sg : Nat → Int32} {cc ci : Int32} {od : Nat → Int32} {we : Int32} {ro : Nat → Int64} {mn mc : Int32} {ms ml : Nat → Int32} {mk : Int32} {mr : Nat → Int64} (h : Rel lab sg cc ci od we ro mn mc ms ml mk mr) (x1 x2 x3 x4 x5 : Int32) :
    ∃ vB vM, F_B_crossing x1 x2 x3 x4 x5 lab sg cc od we = some vB ∧ F_M_crossing x1 x2 x3 x4 x5 mn ms ml mk = some vM ∧ vB.1 = vM.1 ∧ Rel vB.2.1 vB.2.2.1 vB.2.2.2.1 ci vB.2.2.2.2.1 vB.2.2.2.2.2 ro vM.2.1 mc vM.2.2.1 vM.2.2.2.1 vM.2.2.2.2 mr := by
  have hb : F_B_crossing x1 x2 x3 x4 x5 lab sg cc od we = J_B_crossing_0 x1 x2 x3 x4 x5 lab sg cc od we := rfl
  rw [hb]
  unfold J_B_crossing_0
  by_cases ok : okl x2 ∧ okl x3 ∧ okl x4 ∧ okl x5
  · obtain ⟨o2, o3, o4, o5⟩ := ok
    rw [M_crossG o2 o3 o4 o5]
    unfold J_M_crossing_49
    -- the sign is good
    have good : x1 = 1 ∨ x1 = -1 → ∃ vB vM, J_B_crossing_12 x1 x2 x3 x4 x5 lab sg cc od we = some vB ∧ J_M_crossing_61 x1 x2 x3 x4 x5 1 mn ms ml mk = some vM ∧ vB.1 = vM.1 ∧ Rel vB.2.1 vB.2.2.1 vB.2.2.2.1 ci vB.2.2.2.2.1 vB.2.2.2.2.2 ro vM.2.1 mc vM.2.2.1 vM.2.2.2.1 vM.2.2.2.2 mr := by
      intro hx
      obtain ⟨n, z, lb, hn, hz, rfl, rfl, rfl, rfl, l1, l2, sgo, oo, c1, c2⟩ := id h
      unfold J_B_crossing_12 J_M_crossing_61
      rw [F_isLabel1 o2, F_isLabel1 o3, F_isLabel1 o4, F_isLabel1 o5]
      simp only [Option.bind_some, one_ne, if_false]
      simp (disch := omega) only [e10, e4, e1, e2, e3, pk_mul, nI_add, lt32, eq32, in32, cl32]
      by_cases q : n < 10
      · rw [if_pos q, if_pos (by omega), if_pos (by omega), if_pos (by omega), if_pos (by omega), if_pos (by omega), F_order, if_neg (by omega), if_pos (by omega), if_pos (by omega), if_pos (by omega), if_pos (by omega), if_pos (by omega)]
        refine ⟨_, _, rfl, rfl, rfl, n + 1, z, fun j => if j < 4 * n then lb j else if j = 4 * n then x2.toInt.toNat else if j = 4 * n + 1 then x3.toInt.toNat else if j = 4 * n + 2 then x4.toInt.toNat else x5.toInt.toNat, by omega, hz, rfl, rfl, rfl, rfl, labs_add l1 o2 o3 o4 o5, labs_add l2 o2 o3 o4 o5, ?_, ordOK_id (by omega) _, Or.inl rfl, Or.inl rfl⟩
        · intro k hk
          simp only [upd]
          by_cases k0 : k = n
          · rw [if_pos k0, if_pos k0]; exact ⟨rfl, hx⟩
          · rw [if_neg k0, if_neg k0]; exact sgo k (by omega)
      · rw [if_neg q, if_pos (by omega)]
        exact ⟨_, _, rfl, rfl, rfl, h⟩
    by_cases s1 : x1 = 1
    · rw [if_pos s1, if_pos s1]; exact good (Or.inl s1)
    · rw [if_neg s1, if_neg s1]
      by_cases s2 : x1 = -1
      · rw [if_pos s2, if_pos s2]; exact good (Or.inr s2)
      · rw [if_neg s2, if_neg s2]
        exact ⟨_, _, rfl, rfl, rfl, h⟩
  · rw [M_crossB ok, B_crossB ok]
    refine ⟨(-1, lab, sg, cc, od, we), _, ?_, rfl, rfl, h⟩
    repeat' split
    all_goals rfl
theorem op_circles {lab sg : Nat → Int32} {cc ci : Int32} {od : Nat → Int32} {we : Int32} {ro : Nat → Int64} {mn mc : Int32} {ms ml : Nat → Int32} {mk : Int32} {mr : Nat → Int64} (h : Rel lab sg cc ci od we ro mn mc ms ml mk mr) (x1 : Int32) :
    ∃ vB vM, F_B_circles x1 ci we = some vB ∧ F_M_circles x1 mc mk = some vM ∧ vB.1 = vM.1 ∧ Rel lab sg cc vB.2.1 od vB.2.2 ro mn vM.2.1 ms ml vM.2.2 mr := by
  have hb : F_B_circles x1 ci we = J_B_circles_0 x1 ci we := rfl
  have hm : F_M_circles x1 mc mk = J_M_circles_0 x1 mc mk := rfl
  rw [hb, hm]
  unfold J_B_circles_0 J_M_circles_0
  simp only [lt0, le9]
  by_cases q : x1.toInt < 0
  · rw [if_pos q, if_pos q]; exact ⟨_, _, rfl, rfl, rfl, h⟩
  · rw [if_neg q, if_neg q]
    by_cases r : x1.toInt ≤ 9
    · rw [if_pos r, if_pos r]
      obtain ⟨n, z, lb, hn, hz, rfl, rfl, rfl, rfl, l1, l2, sgo, oo, c1, c2⟩ := h
      have e : x1 = nI x1.toInt.toNat := by rw [nI_iI, show ((x1.toInt.toNat : Nat) : Int) = x1.toInt by omega, iI_self]
      exact ⟨_, _, rfl, rfl, rfl, n, x1.toInt.toNat, lb, hn, by omega, rfl, rfl, e, e, l1, l2, sgo, oo, Or.inl rfl, Or.inl rfl⟩
    · rw [if_neg r, if_neg r]; exact ⟨_, _, rfl, rfl, rfl, h⟩
theorem op_clear {lab sg : Nat → Int32} {cc ci : Int32} {od : Nat → Int32} {we : Int32} {ro : Nat → Int64} {mn mc : Int32} {ms ml : Nat → Int32} {mk : Int32} {mr : Nat → Int64} (h : Rel lab sg cc ci od we ro mn mc ms ml mk mr) :
    ∃ vB vM, F_B_clear cc ci od we = some vB ∧ F_M_clear mn mc mk = some vM ∧ vB.1 = vM.1 ∧ Rel lab sg vB.2.1 vB.2.2.1 vB.2.2.2.1 vB.2.2.2.2 ro vM.2.1 vM.2.2.1 ms ml vM.2.2.2 mr := by
  have hb : F_B_clear cc ci od we = J_B_clear_0 cc ci od we := rfl
  have hm : F_M_clear mn mc mk = J_M_clear_0 mn mc mk := rfl
  rw [hb, hm]
  unfold J_B_clear_0 J_M_clear_0
  rw [F_order]
  obtain ⟨n, z, lb, hn, hz, rfl, rfl, rfl, rfl, l1, l2, sgo, oo, c1, c2⟩ := h
  exact ⟨_, _, rfl, rfl, rfl, 0, 0, lb, by omega, by omega, rfl, rfl, rfl, rfl, fun j hj => by omega, fun j hj => by omega, fun k hk => by omega, ordOK_id (by omega) _, Or.inl rfl, Or.inl rfl⟩
theorem op_fault {lab sg : Nat → Int32} {cc ci : Int32} {od : Nat → Int32} {we : Int32} {ro : Nat → Int64} {mn mc : Int32} {ms ml : Nat → Int32} {mk : Int32} {mr : Nat → Int64} (h : Rel lab sg cc ci od we ro mn mc ms ml mk mr) (sd : Nat → Int32) :
    ∃ vB vM, F_B_fault lab cc sd = some vB ∧ F_M_fault mn ml = some vM ∧ vB.1 = vM := by
  obtain ⟨n, z, lb, hn, hz, rfl, rfl, rfl, rfl, l1, l2, sgo, oo, c1, c2⟩ := h
  exact ⟨_, _, F_fault hn l1 sd, F_mfault hn l2, rfl⟩
/-! sums of signs -/
theorem L_signs {n : Nat} {sg ms : Nat → Int32} (hn : n ≤ 10) (h : sgOK n sg ms) : ∀ (r i : Nat) (s : Int), i + r = n → -(i : Int) ≤ s → s ≤ i → ∃ s', -10 ≤ s' ∧ s' ≤ 10 ∧ (∀ m, r < m → L_B_sumOfSigns_4 m (iI s) (nI i) sg (nI n) = some (iI s')) ∧ ∀ m, r < m → L_M_signs_4 m (iI s) (nI i) (nI n) ms = some (iI s')
  | 0, i, s, h1, h2, h3 => by
    refine ⟨s, by omega, by omega, fun m hm => ?_, fun m hm => ?_⟩
    · match m, hm with
      | m + 1, hm =>
        show J_B_sumOfSigns_4 (L_B_sumOfSigns_4 m) (iI s) (nI i) sg (nI n) = _
        unfold J_B_sumOfSigns_4
        simp (disch := omega) only [le32]
        rw [if_pos (by omega)]
    · match m, hm with
      | m + 1, hm =>
        show J_M_signs_4 (L_M_signs_4 m) (iI s) (nI i) (nI n) ms = _
        unfold J_M_signs_4
        simp (disch := omega) only [le32]
        rw [if_pos (by omega)]
  | r + 1, i, s, h1, h2, h3 => by
    obtain ⟨g1, g2⟩ := h i (by omega)
    obtain ⟨d, d1, d2, d3⟩ : ∃ d : Int, sg i = iI d ∧ -1 ≤ d ∧ d ≤ 1 := by
      rcases g2 with g2 | g2
      · exact ⟨1, g2, by omega, by omega⟩
      · exact ⟨-1, g2.trans im1, by omega, by omega⟩
    obtain ⟨s', k1, k2, k3, k4⟩ := L_signs hn h r (i + 1) (s + d) (by omega) (by omega) (by omega)
    refine ⟨s', k1, k2, fun m hm => ?_, fun m hm => ?_⟩
    · match m, hm with
      | m + 1, hm =>
        show J_B_sumOfSigns_4 (L_B_sumOfSigns_4 m) (iI s) (nI i) sg (nI n) = _
        unfold J_B_sumOfSigns_4
        simp (disch := omega) only [le32, in32, cl32, nI_1]
        rw [if_neg (by omega), if_pos (by omega), d1, iI_add]
        exact k3 m (by omega)
    · match m, hm with
      | m + 1, hm =>
        show J_M_signs_4 (L_M_signs_4 m) (iI s) (nI i) (nI n) ms = _
        unfold J_M_signs_4
        simp (disch := omega) only [le32, in32, cl32, nI_1]
        rw [if_neg (by omega), if_pos (by omega), ← g1, d1, iI_add]
        exact k4 m (by omega)
theorem F_signs {n : Nat} {sg ms : Nat → Int32} (hn : n ≤ 10) (h : sgOK n sg ms) : ∃ s : Int, -10 ≤ s ∧ s ≤ 10 ∧ F_B_sumOfSigns sg (nI n) = some (iI s) ∧ F_M_signs (nI n) ms = some (iI s) := by
  obtain ⟨s, h1, h2, h3, h4⟩ := L_signs hn h n 0 0 (by omega) (by omega) (by omega)
  exact ⟨s, h1, h2, h3 fu (by have : fu = 5000 := rfl; omega), h4 fu (by have : fu = 5000 := rfl; omega)⟩
theorem isCross {n : Nat} (hn : n ≤ 10) (x : Int32) : (∃ k, k < n ∧ x = nI k ∧ F_B_isCrossing x (nI n) = some 1) ∨ ((x < 0 ∨ nI n ≤ x) ∧ F_B_isCrossing x (nI n) = some 0) := by
  have e : F_B_isCrossing x (nI n) = J_B_isCrossing_0 x (nI n) := rfl
  rw [e]
  unfold J_B_isCrossing_0
  rcases pk_ix x (n := n) (by omega) with h | h | ⟨j, h1, h2⟩
  · exact Or.inr ⟨Or.inl h, if_pos h⟩
  · refine Or.inr ⟨Or.inr h, ?_⟩
    by_cases q : x < 0
    · rw [if_pos q]
    · rw [if_neg q, if_pos h]
  · refine Or.inl ⟨j, h1, h2, ?_⟩
    rw [h2, if_neg (nI_pos (by omega)), if_neg (nI_ge h1 (by omega))]
theorem op_look {lab sg : Nat → Int32} {cc ci : Int32} {od : Nat → Int32} {we : Int32} {ro : Nat → Int64} {mn mc : Int32} {ms ml : Nat → Int32} {mk : Int32} {mr : Nat → Int64} (h : Rel lab sg cc ci od we ro mn mc ms ml mk mr) (x1 x2 : Int32) :
    ∃ v, F_B_look x1 x2 lab sg cc ci = some v ∧ F_M_look x1 x2 mn mc ms ml = some v := by
  obtain ⟨n, z, lb, hn, hz, rfl, rfl, rfl, rfl, l1, l2, sgo, oo, c1, c2⟩ := h
  obtain ⟨s, s1, s2, s3, s4⟩ := F_signs hn sgo
  have hb : F_B_look x1 x2 lab sg (nI n) (nI z) = J_B_look_0 x1 x2 lab sg (nI n) (nI z) := rfl
  have hm : F_M_look x1 x2 (nI n) (nI z) ms ml = J_M_look_0 x1 x2 (nI n) (nI z) ms ml := rfl
  rw [hb, hm]
  unfold J_B_look_0 J_M_look_0 J_B_look_43
  by_cases q : x1 = -1
  · rw [if_pos q, if_pos q]
    have hl : F_B_lookAtAll x2 sg (nI n) (nI z) = J_B_lookAtAll_0 x2 sg (nI n) (nI z) := rfl
    rw [hl]
    unfold J_B_lookAtAll_0
    rw [s3, s4]
    by_cases q0 : x2 = 0
    · simp only [if_pos q0]; exact ⟨_, rfl, rfl⟩
    · simp only [if_neg q0]
      by_cases q1 : x2 = 1
      · simp only [if_pos q1]; exact ⟨_, rfl, rfl⟩
      · simp only [if_neg q1]
        by_cases q2 : x2 = 2
        · simp only [if_pos q2]; exact ⟨_, rfl, rfl⟩
        · simp only [if_neg q2]; exact ⟨_, rfl, rfl⟩
  · rw [if_neg q, if_neg q]
    rcases isCross hn x1 with ⟨k, k1, k2, k3⟩ | ⟨k1, k2⟩
    · rw [k3]
      simp only [Option.bind_some]
      rw [if_neg (by decide), k2, if_neg (nI_pos (by omega)), if_neg (nI_ge k1 (by omega))]
      rcases pk_ix x2 (n := 4) (by omega) with w | w | ⟨j, w1, w2⟩
      · simp only [if_pos w, if_neg (show ¬ x2 = 4 from fun r => by rw [r] at w; exact absurd w (by decide))]
        exact ⟨_, rfl, rfl⟩
      · have w0 : ¬ x2 < 0 := fun r => by
          rw [Int32.lt_iff_toInt_lt] at r
          rw [Int32.le_iff_toInt_le] at w
          have e1 : (nI 4).toInt = 4 := rfl
          have e2 : (0 : Int32).toInt = 0 := rfl
          omega
        simp only [if_neg w0, if_pos (show (4 : Int32) ≤ x2 from w)]
        by_cases w4 : x2 = 4
        · simp only [if_pos w4, if_pos (show x2 ≤ (4 : Int32) by rw [w4]; exact Int32.le_refl _)]
          simp (disch := omega) only [in32, cl32]
          rw [if_pos (show k < 10 by omega), if_pos (show k < 10 by omega), (sgo k k1).1]
          exact ⟨_, rfl, rfl⟩
        · have w5 : ¬ x2 ≤ 4 := fun w5 => w4 (Int32.le_antisymm w5 w)
          simp only [if_neg w4, if_neg w5]
          exact ⟨_, rfl, rfl⟩
      · rw [w2]
        simp (disch := omega) only [e4, e0, pk_mul, nI_add, in32, cl32, lt32, le32, eq32]
        simp only [if_neg (show ¬ j < 0 by omega), if_neg (show ¬ 4 ≤ j by omega), if_pos (show j ≤ 4 by omega), if_neg (show ¬ j = 4 by omega), if_pos (show 4 * k + j < 40 by omega)]
        rw [(l1 _ (by omega)).1, (l2 _ (by omega)).1]
        exact ⟨_, rfl, rfl⟩
    · rw [k2]
      simp only [Option.bind_some, if_true]
      rcases k1 with k1 | k1
      · rw [if_pos k1]; exact ⟨_, rfl, rfl⟩
      · by_cases w : x1 < 0
        · rw [if_pos w]; exact ⟨_, rfl, rfl⟩
        · rw [if_neg w, if_pos k1]; exact ⟨_, rfl, rfl⟩
