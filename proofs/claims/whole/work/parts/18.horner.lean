/-! THE CLASS'S POLYNOMIAL -/
def iI (x : Int) : Int32 := Int32.ofInt x
theorem nI_iI (n : Nat) : nI n = iI (n : Int) := (Int32.ofInt_eq_ofNat).symm
theorem iI_toInt {x : Int} (h1 : -2147483648 ≤ x) (h2 : x < 2147483648) : (iI x).toInt = x := Int32.toInt_ofInt_of_le h1 h2
theorem iI_add (a b : Int) : iI a + iI b = iI (a + b) := (Int32.ofInt_add a b).symm
theorem iI_sub (a b : Int) : iI a - iI b = iI (a - b) := (Int32.ofInt_sub a b).symm
theorem iI_mul (a b : Int) : iI a * iI b = iI (a * b) := (Int32.ofInt_mul a b).symm
theorem iI_neg (a : Int) : -iI a = iI (-a) := (Int32.ofInt_neg a).symm
theorem iI_self (x : Int32) : iI x.toInt = x := Int32.ofInt_toInt x
theorem le_i {a b : Int} (a1 : -2147483648 ≤ a) (a2 : a < 2147483648) (b1 : -2147483648 ≤ b) (b2 : b < 2147483648) : (iI a ≤ iI b) = (a ≤ b) := by
  rw [Int32.le_iff_toInt_le, iI_toInt a1 a2, iI_toInt b1 b2]
theorem lt_i {a b : Int} (a1 : -2147483648 ≤ a) (a2 : a < 2147483648) (b1 : -2147483648 ≤ b) (b2 : b < 2147483648) : (iI a < iI b) = (a < b) := by
  rw [Int32.lt_iff_toInt_lt, iI_toInt a1 a2, iI_toInt b1 b2]
theorem eq_i {a b : Int} (a1 : -2147483648 ≤ a) (a2 : a < 2147483648) (b1 : -2147483648 ≤ b) (b2 : b < 2147483648) : (iI a = iI b) = (a = b) := by
  refine propext ⟨fun h => ?_, fun h => by rw [h]⟩
  have := congrArg Int32.toInt h
  rwa [iI_toInt a1 a2, iI_toInt b1 b2] at this
theorem in_i {a : Int} {n : Nat} (a1 : -2147483648 ≤ a) (a2 : a < 2147483648) : (inb (iI a) n = true) = (0 ≤ a ∧ a < n) := by
  rw [inb_iff, iI_toInt a1 a2]
theorem cl_i {a : Int} (a1 : -2147483648 ≤ a) (a2 : a < 2147483648) : (iI a).toNatClampNeg = a.toNat := by
  show (iI a).toInt.toNat = a.toNat
  rw [iI_toInt a1 a2]
theorem i0 : (0 : Int32) = iI 0 := rfl
theorem i1 : (1 : Int32) = iI 1 := rfl
theorem i2 : (2 : Int32) = iI 2 := rfl
theorem i3 : (3 : Int32) = iI 3 := rfl
theorem i4 : (4 : Int32) = iI 4 := rfl
theorem i66 : (66 : Int32) = iI 66 := rfl
theorem im66 : (-66 : Int32) = iI (-66) := rfl
theorem im1 : (-1 : Int32) = iI (-1) := rfl
theorem i128 : (128 : Int32) = iI 128 := rfl
theorem im128 : (-128 : Int32) = iI (-128) := rfl
def repL (f : Int → Int64) (ro : Nat → Int64) : Prop := ∀ j, j < 133 → ro j = f ((j : Int) - 66)
def suppL (f : Int → Int64) : Prop := ∀ x, x < -66 ∨ 66 < x → f x = 0
theorem F_at {f : Int → Int64} {ro : Nat → Int64} (hr : repL f ro) (hs : suppL f) (y : Int64) : F_P_at y ro = some (f y.toInt) := by
  show J_P_at_0 y ro = _
  unfold J_P_at_0
  have e1 : y < (-66 : Int64) ↔ y.toInt < -66 := Int64.lt_iff_toInt_lt
  have e2 : y ≤ (66 : Int64) ↔ y.toInt ≤ 66 := Int64.le_iff_toInt_le
  have e3 : y.toInt32 = iI y.toInt := by
    conv => lhs; rw [← Int64.ofInt_toInt y]
    exact Int64.toInt32_ofInt
  by_cases h1 : y.toInt < -66
  · rw [if_pos ((lg_cmp_lt y _).mpr (e1.mpr h1)), hs _ (Or.inl h1)]
  · rw [if_neg (fun q => h1 (e1.mp ((lg_cmp_lt y _).mp q)))]
    by_cases h2 : y.toInt ≤ 66
    · rw [if_pos ((lg_cmp_le y _).mpr (e2.mpr h2)), e3, i66, iI_add]
      simp (disch := omega) only [in_i, cl_i]
      rw [if_pos (by omega), hr _ (by omega)]
      congr 2
      omega
    · rw [if_neg (fun q => h2 (e2.mp ((lg_cmp_le y _).mp q))), hs _ (Or.inr (by omega))]
theorem i64_toInt {x : Int} (h1 : -2147483648 ≤ x) (h2 : x < 2147483648) : ((iI x).toInt64).toInt = x := by
  rw [Int32.toInt_toInt64, iI_toInt h1 h2]
theorem L_timesD {f : Int → Int64} {ro : Nat → Int64} (hr : repL f ro) (hs : suppL f) (qr qs : Nat) : ∀ (m i : Nat) (sp : Nat → Int64), i ≤ 133 → 133 < m + i → (∀ j, j < i → sp j = -(f ((j : Int) - 66 - 2)) - f ((j : Int) - 66 + 2)) → ∃ sp', L_P_timesD_3 m (iI ((i : Int) - 66)) ro sp qr qs = some (sp', ro, qs, qr) ∧ repL (fun x => -(f (x - 2)) - f (x + 2)) sp'
  | 0, i, sp, hi, hm, _ => by omega
  | m + 1, i, sp, hi, hm, h => by
    suffices g : ∃ sp', J_P_timesD_3 (L_P_timesD_3 m) (iI ((i : Int) - 66)) ro sp qr qs = some (sp', ro, qs, qr) ∧ repL (fun x => -(f (x - 2)) - f (x + 2)) sp' from g
    unfold J_P_timesD_3
    simp (disch := omega) only [i66, i2, i1, lt_i, iI_add, iI_sub, in_i, cl_i]
    by_cases q : i < 133
    · rw [if_neg (by omega), F_at hr hs, F_at hr hs, i64_toInt (by omega) (by omega), i64_toInt (by omega) (by omega)]
      simp only [Option.bind_some]
      rw [if_pos (by omega), show (i : Int) - 66 + 1 = ((i + 1 : Nat) : Int) - 66 by omega, show ((i : Int) - 66 + 66).toNat = i by omega]
      refine L_timesD hr hs qr qs m (i + 1) _ (by omega) (by omega) (fun j hj => ?_)
      by_cases w : j = i
      · subst w; exact pk_uLs
      · rw [pk_uLn w]; exact h j (by omega)
    · rw [if_pos (by omega)]
      exact ⟨sp, rfl, fun j hj => h j (by omega)⟩
theorem F_timesD {f : Int → Int64} {ro : Nat → Int64} (hr : repL f ro) (hs : suppL f) (sp : Nat → Int64) (qr qs : Nat) : ∃ sp', F_P_timesD ro sp qr qs = some (sp', ro, qs, qr) ∧ repL (fun x => -(f (x - 2)) - f (x + 2)) sp' :=
  L_timesD hr hs qr qs fu 0 sp (by omega) (by decide) (fun j hj => by omega)
theorem F_add {f : Int → Int64} {ro : Nat → Int64} (hr : repL f ro) {x : Int} (h1 : -66 ≤ x) (h2 : x ≤ 66) (c : Int64) : ∃ ro', F_P_add (iI x) c ro = some ro' ∧ repL (fun y => f y + if y = x then c else 0) ro' := by
  refine ⟨vp_updL ro (x + 66).toNat (ro (x + 66).toNat + c), ?_, fun j hj => ?_⟩
  · show J_P_add_0 (iI x) c ro = _
    unfold J_P_add_0
    simp (disch := omega) only [i66, iI_neg, iI_add, lt_i, in_i, cl_i]
    rw [if_neg (by omega), if_neg (by omega), if_pos (by omega), if_pos (by omega)]
  · by_cases w : j = (x + 66).toNat
    · subst w
      rw [pk_uLs, hr _ hj]
      dsimp only
      rw [if_pos (by omega)]
    · rw [pk_uLn w, hr _ hj]
      dsimp only
      rw [if_neg (by omega)]
      exact (Int64.add_zero _).symm
theorem lcmp0 (x : Int64) : (lg_cmp x 0 = 0) = (x = 0) := propext (lg_cmp_eq x 0)
theorem L_least {ro : Nat → Int64} : ∀ (m i : Nat), i ≤ 133 → 133 < m + i → ((∀ j, i ≤ j → j < 133 → ro j = 0) ∧ L_P_least_3 m (iI ((i : Int) - 66)) ro = some 0) ∨ ∃ j, i ≤ j ∧ j < 133 ∧ ro j ≠ 0 ∧ (∀ t, i ≤ t → t < j → ro t = 0) ∧ L_P_least_3 m (iI ((i : Int) - 66)) ro = some (iI ((j : Int) - 66))
  | 0, i, hi, hm => by omega
  | m + 1, i, hi, hm => by
    have e : L_P_least_3 (m + 1) (iI ((i : Int) - 66)) ro = J_P_least_3 (L_P_least_3 m) (iI ((i : Int) - 66)) ro := rfl
    rw [e]
    unfold J_P_least_3
    simp (disch := omega) only [i66, i1, lt_i, iI_add, in_i, cl_i, lcmp0]
    by_cases q : i < 133
    · rw [if_neg (by omega), if_pos (by omega), show ((i : Int) - 66 + 66).toNat = i by omega, show (i : Int) - 66 + 1 = ((i + 1 : Nat) : Int) - 66 by omega]
      by_cases w : ro i = 0
      · rw [if_pos w]
        rcases L_least (ro := ro) m (i + 1) (by omega) (by omega) with ⟨h1, h2⟩ | ⟨j, h1, h2, h3, h4, h5⟩
        · refine Or.inl ⟨fun j a b => ?_, h2⟩
          by_cases z : j = i
          · subst z; exact w
          · exact h1 j (by omega) b
        · refine Or.inr ⟨j, by omega, h2, h3, fun t a b => ?_, h5⟩
          by_cases z : t = i
          · subst z; exact w
          · exact h4 t (by omega) b
      · rw [if_neg w]
        exact Or.inr ⟨i, Nat.le_refl _, q, w, fun t a b => by omega, rfl⟩
    · rw [if_pos (by omega)]
      exact Or.inl ⟨fun j a b => by omega, rfl⟩
theorem F_least (ro : Nat → Int64) : ((∀ j, j < 133 → ro j = 0) ∧ F_P_least ro = some 0) ∨ ∃ j, j < 133 ∧ ro j ≠ 0 ∧ (∀ t, t < j → ro t = 0) ∧ F_P_least ro = some (iI ((j : Int) - 66)) := by
  rcases L_least (ro := ro) fu 0 (by omega) (by decide) with ⟨h1, h2⟩ | ⟨j, h1, h2, h3, h4, h5⟩
  · exact Or.inl ⟨fun j hj => h1 j (by omega) hj, h2⟩
  · exact Or.inr ⟨j, h2, h3, fun t ht => h4 t (by omega) ht, h5⟩
theorem F_isZero (ro : Nat → Int64) : ((∀ j, j < 133 → ro j = 0) ∧ F_P_isZero ro = some 1) ∨ ((∃ j, j < 133 ∧ ro j ≠ 0) ∧ F_P_isZero ro = some 0) := by
  have e : F_P_isZero ro = J_P_isZero_0 ro := rfl
  rw [e]
  unfold J_P_isZero_0
  rcases F_least ro with ⟨h1, h2⟩ | ⟨j, h1, h2, h3, h4⟩
  · refine Or.inl ⟨h1, ?_⟩
    rw [h2]
    simp only [Option.bind_some]
    rw [show (0 : Int32) + 66 = iI 66 from rfl]
    simp (disch := omega) only [in_i, cl_i, lcmp0]
    rw [if_pos (by omega), if_pos (h1 _ (by omega))]
  · refine Or.inr ⟨⟨j, h1, h2⟩, ?_⟩
    rw [h4]
    simp only [Option.bind_some]
    rw [i66, iI_add]
    simp (disch := omega) only [in_i, cl_i, lcmp0]
    rw [if_pos (by omega), show ((j : Int) - 66 + 66).toNat = j by omega, if_neg h2]
theorem L_greatest {ro : Nat → Int64} : ∀ (m i : Nat), i ≤ 133 → i < m → ((∀ j, j < i → ro j = 0) ∧ L_P_greatest_3 m (iI ((i : Int) - 67)) ro = some 0) ∨ ∃ j, j < i ∧ ro j ≠ 0 ∧ (∀ t, j < t → t < i → ro t = 0) ∧ L_P_greatest_3 m (iI ((i : Int) - 67)) ro = some (iI ((j : Int) - 66))
  | 0, i, hi, hm => by omega
  | m + 1, i, hi, hm => by
    have e : L_P_greatest_3 (m + 1) (iI ((i : Int) - 67)) ro = J_P_greatest_3 (L_P_greatest_3 m) (iI ((i : Int) - 67)) ro := rfl
    rw [e]
    unfold J_P_greatest_3
    simp (disch := omega) only [i66, i1, iI_neg, lt_i, iI_add, in_i, cl_i, lcmp0]
    match i, hi, hm with
    | 0, hi, hm =>
      rw [if_pos (by omega)]
      exact Or.inl ⟨fun j a => by omega, rfl⟩
    | i + 1, hi, hm =>
      rw [if_neg (by omega), if_pos (by omega), show (((i + 1 : Nat) : Int) - 67 + 66).toNat = i by omega, show ((i + 1 : Nat) : Int) - 67 + -1 = (i : Int) - 67 by omega]
      by_cases w : ro i = 0
      · rw [if_pos w]
        rcases L_greatest (ro := ro) m i (by omega) (by omega) with ⟨h1, h2⟩ | ⟨j, h1, h2, h3, h4⟩
        · refine Or.inl ⟨fun j a => ?_, h2⟩
          by_cases z : j = i
          · subst z; exact w
          · exact h1 j (by omega)
        · refine Or.inr ⟨j, by omega, h2, fun t a b => ?_, h4⟩
          by_cases z : t = i
          · subst z; exact w
          · exact h3 t a (by omega)
      · rw [if_neg w]
        refine Or.inr ⟨i, by omega, w, fun t a b => by omega, ?_⟩
        rw [show ((i + 1 : Nat) : Int) - 67 = (i : Int) - 66 by omega]
theorem F_greatest (ro : Nat → Int64) : ((∀ j, j < 133 → ro j = 0) ∧ F_P_greatest ro = some 0) ∨ ∃ j, j < 133 ∧ ro j ≠ 0 ∧ (∀ t, j < t → t < 133 → ro t = 0) ∧ F_P_greatest ro = some (iI ((j : Int) - 66)) :=
  L_greatest (ro := ro) fu 133 (by omega) (by decide)
/-- the inner loop of the sum -/
theorem L_sum27 {n g : Nat} (hn : n ≤ 10) {t : Nat → Nat} (ht : ∀ j, t j ≤ 1024) (rec3 : Int32 → Int32 → (Nat → Int32) → (Nat → Int64) → (Nat → Int64) → Nat → Nat → Option ((Nat → Int64) × (Nat → Int64) × Nat × Nat)) (sp : Nat → Int64) (qr qs : Nat) (hg : g ≤ 28) : ∀ (m r a : Nat) (f : Int → Int64) (ro : Nat → Int64), a + r = n + 1 → r < m → repL f ro →
    ∃ ro', L_B_sumTally_27 rec3 m (nI (29 - g)) (nI a) (nI n) (fun j => nI (t j)) ro sp qr qs = rec3 (nI (28 - g)) (nI n) (fun j => nI (t j)) ro' sp qr qs ∧ repL (fun x => f x + (sm (fun i => if x = 2 * (i : Int) - n then lN (t (i * 30 + (29 - g))) else 0) (n + 1) - sm (fun i => if x = 2 * (i : Int) - n then lN (t (i * 30 + (29 - g))) else 0) a)) ro'
  | 0, r, a, f, ro, _, h2, _ => by omega
  | m + 1, r, a, f, ro, h1, h2, h3 => by
    suffices g0 : ∃ ro', J_B_sumTally_27 rec3 (L_B_sumTally_27 rec3 m) (nI (29 - g)) (nI a) (nI n) (fun j => nI (t j)) ro sp qr qs = rec3 (nI (28 - g)) (nI n) (fun j => nI (t j)) ro' sp qr qs ∧ repL (fun x => f x + (sm (fun i => if x = 2 * (i : Int) - n then lN (t (i * 30 + (29 - g))) else 0) (n + 1) - sm (fun i => if x = 2 * (i : Int) - n then lN (t (i * 30 + (29 - g))) else 0) a)) ro' from g0
    unfold J_B_sumTally_27
    have hb := ht (a * 30 + (29 - g))
    simp (disch := omega) only [lt32, e30, e2, pk_mul, nI_add, in32, cl32, nI_1]
    match r, h1, h2 with
    | 0, h1, h2 =>
      rw [if_pos (by omega)]
      refine ⟨ro, ?_, fun j hj => ?_⟩
      · rw [show 29 - g = (28 - g) + 1 by omega, pk_m1]
      · obtain rfl : a = n + 1 := by omega
        rw [h3 j hj]
        grind
    | r + 1, h1, h2 =>
      rw [if_neg (by omega), if_pos (by omega), nI_l (by omega), nI_iI (2 * a), nI_iI n, iI_sub]
      obtain ⟨ro1, f1, r1⟩ := F_add h3 (x := ((2 * a : Nat) : Int) - n) (by omega) (by omega) (lN (t (a * 30 + (29 - g))))
      rw [f1]
      simp only [Option.bind_some]
      rw [← nI_iI n]
      obtain ⟨ro2, f2, r2⟩ := L_sum27 hn ht rec3 sp qr qs hg m r (a + 1) _ ro1 (by omega) (by omega) r1
      refine ⟨ro2, f2, fun j hj => ?_⟩
      rw [r2 j hj]
      simp only [sm]
      by_cases w : (j : Int) - 66 = 2 * (a : Int) - n
      · rw [if_pos (by omega), if_pos w]; grind
      · rw [if_neg (by omega), if_neg w]; grind
theorem L_sum3 {n : Nat} (hn : n ≤ 10) {t : Nat → Nat} (ht : ∀ j, t j ≤ 1024) : ∀ (m g : Nat) (ro sp : Nat → Int64) (qr qs : Nat), g ≤ 29 → 29 < m + g → repL (Hs n t g) ro →
    ∃ ro' sp' qr' qs', L_B_sumTally_3 m (nI (29 - g)) (nI n) (fun j => nI (t j)) ro sp qr qs = some (ro', sp', qr', qs') ∧ repL (Hs n t 29) ro'
  | 0, g, ro, sp, qr, qs, hg, hm, _ => by omega
  | m + 1, g, ro, sp, qr, qs, hg, hm, h => by
    suffices g0 : ∃ ro' sp' qr' qs', J_B_sumTally_3 (L_B_sumTally_3 m) (nI (29 - g)) (nI n) (fun j => nI (t j)) ro sp qr qs = some (ro', sp', qr', qs') ∧ repL (Hs n t 29) ro' from g0
    unfold J_B_sumTally_3
    simp (disch := omega) only [e1, lt32]
    by_cases q : g = 29
    · subst q
      rw [if_pos (by omega)]
      exact ⟨ro, sp, qr, qs, rfl, h⟩
    · rw [if_neg (by omega)]
      have hsu : suppL (Hs n t g) := fun x hx => Hs_supp hn t g x (by omega)
      -- the product with d
      have prod : ∃ ro1 sp1 qr1 qs1, repL (fun x => -(Hs n t g (x - 2)) - Hs n t g (x + 2)) ro1 ∧ (Option.bind (F_P_isZero ro) (fun v_2 => (if v_2 = 0 then (Option.bind (F_P_timesD ro sp qr qs) (fun v_4 => L_B_sumTally_27 (L_B_sumTally_3 m) fu (nI (29 - g)) (0 : Int32) (nI n) (fun j => nI (t j)) v_4.1 v_4.2.1 v_4.2.2.1 v_4.2.2.2)) else L_B_sumTally_27 (L_B_sumTally_3 m) fu (nI (29 - g)) (0 : Int32) (nI n) (fun j => nI (t j)) ro sp qr qs))) = L_B_sumTally_27 (L_B_sumTally_3 m) fu (nI (29 - g)) (nI 0) (nI n) (fun j => nI (t j)) ro1 sp1 qr1 qs1 := by
        rcases F_isZero ro with ⟨z1, z2⟩ | ⟨z1, z2⟩
        · have hz : ∀ x, Hs n t g x = 0 := fun x => by
            by_cases w : x < -66 ∨ 66 < x
            · exact hsu x w
            · have := h (x + 66).toNat (by omega)
              rw [z1 _ (by omega)] at this
              rw [show (((x + 66).toNat : Nat) : Int) - 66 = x by omega] at this
              exact this.symm
          refine ⟨ro, sp, qr, qs, fun j hj => ?_, ?_⟩
          · rw [z1 j hj]; dsimp only; rw [hz, hz]; rfl
          · rw [z2]
            rfl
        · obtain ⟨sp1, f1, r1⟩ := F_timesD h hsu sp qr qs
          refine ⟨sp1, ro, qs, qr, r1, ?_⟩
          rw [z2]
          simp only [Option.bind_some, if_true]
          rw [f1]
          rfl
      obtain ⟨ro1, sp1, qr1, qs1, p1, p2⟩ := prod
      rw [p2]
      obtain ⟨ro2, f2, r2⟩ := L_sum27 hn ht (L_B_sumTally_3 m) sp1 qr1 qs1 (g := g) (by omega) fu (n + 1) 0 _ ro1 (by omega) (by have : fu = 5000 := rfl; omega) p1
      rw [f2, show 28 - g = 29 - (g + 1) by omega]
      refine L_sum3 hn ht m (g + 1) ro2 sp1 qr1 qs1 (by omega) (by omega) (fun j hj => ?_)
      rw [r2 j hj]
      simp only [Hs, sm]
      grind
theorem F_sum {n : Nat} (hn : n ≤ 10) {t : Nat → Nat} (ht : ∀ j, t j ≤ 1024) (sp : Nat → Int64) (qr qs : Nat) : ∃ ro' sp' qr' qs', F_B_sumTally (nI n) (fun j => nI (t j)) (fun _ => 0) sp qr qs = some (ro', sp', qr', qs') ∧ repL (Hs n t 29) ro' :=
  L_sum3 hn ht fu 0 (fun _ => 0) sp qr qs (by omega) (by decide) (fun j hj => rfl)
