/-! THE REFERENCE'S POLYNOMIAL: binomials -/
def Cb : Nat → Nat → Int64
  | 0, 0 => 1
  | 0, _ + 1 => 0
  | m + 1, 0 => Cb m 0
  | m + 1, k + 1 => Cb m (k + 1) + Cb m k
theorem Cb_big : ∀ (m k : Nat), m < k → Cb m k = 0
  | 0, 0, h => by omega
  | 0, k + 1, _ => rfl
  | m + 1, 0, h => by omega
  | m + 1, k + 1, h => by
    simp only [Cb]
    rw [Cb_big m (k + 1) (by omega), Cb_big m k (by omega)]
    rfl
theorem Cb_0 : ∀ (m : Nat), Cb m 0 = 1
  | 0 => rfl
  | m + 1 => Cb_0 m
def sgn (m : Nat) (c : Int64) : Int64 := if m % 2 = 0 then c else -c
theorem sgn_s (m : Nat) (c : Int64) : sgn (m + 1) c = -(sgn m c) := by
  unfold sgn
  by_cases h : m % 2 = 0
  · rw [if_pos h, if_neg (by omega)]
  · rw [if_neg h, if_pos (by omega), Int64.neg_neg]
def Db (m : Nat) (y : Int) : Int64 := if (2 * (m : Int) - y) % 4 = 0 ∧ 0 ≤ 2 * (m : Int) - y ∧ 2 * (m : Int) - y ≤ 4 * m then sgn m (Cb m ((2 * (m : Int) - y) / 4).toNat) else 0
theorem Dp_Db : ∀ (m : Nat) (y : Int), Dp m y = Db m y
  | 0, y => by
    unfold Db
    simp only [Dp]
    by_cases h : y = 0
    · subst h; rfl
    · rw [if_neg h, if_neg (by omega)]
  | m + 1, y => by
    simp only [Dp]
    rw [Dp_Db m (y - 2), Dp_Db m (y + 2)]
    unfold Db
    rw [show 2 * (m : Int) - (y - 2) = 2 * ((m + 1 : Nat) : Int) - y by omega, show 2 * (m : Int) - (y + 2) = 2 * ((m + 1 : Nat) : Int) - y - 4 by omega]
    generalize 2 * ((m + 1 : Nat) : Int) - y = u
    by_cases h4 : u % 4 = 0
    · by_cases h0 : 0 ≤ u
      · by_cases hb : u ≤ 4 * ((m + 1 : Nat) : Int)
        · rw [if_pos (show u % 4 = 0 ∧ 0 ≤ u ∧ u ≤ 4 * ((m + 1 : Nat) : Int) from ⟨h4, h0, hb⟩)]
          rcases Nat.eq_zero_or_pos (u / 4).toNat with q | q
          · rw [if_pos (show u % 4 = 0 ∧ 0 ≤ u ∧ u ≤ 4 * (m : Int) from ⟨h4, h0, by omega⟩), if_neg (by omega), q, Cb_0, Cb_0, sgn_s]
            grind
          · obtain ⟨k, hk⟩ : ∃ k, (u / 4).toNat = k + 1 := ⟨(u / 4).toNat - 1, by omega⟩
            rw [if_pos (show (u - 4) % 4 = 0 ∧ 0 ≤ u - 4 ∧ u - 4 ≤ 4 * (m : Int) from ⟨by omega, by omega, by omega⟩), show ((u - 4) / 4).toNat = k by omega, hk, sgn_s]
            by_cases hc : u ≤ 4 * (m : Int)
            · rw [if_pos ⟨h4, h0, hc⟩]
              unfold sgn
              simp only [Cb]
              split <;> grind
            · rw [if_neg (fun q => hc q.2.2)]
              have : Cb m (k + 1) = 0 := Cb_big m (k + 1) (by omega)
              unfold sgn
              simp only [Cb]
              rw [this]
              split <;> grind
        · rw [if_neg (by omega), if_neg (by omega), if_neg (by omega)]; rfl
      · rw [if_neg (by omega), if_neg (by omega), if_neg (by omega)]; rfl
    · rw [if_neg (by omega), if_neg (by omega), if_neg (by omega)]; rfl
theorem sm_single {y A : Int} {g : Nat → Int64} : ∀ (N : Nat), sm (fun i => if y = A - 4 * (i : Int) then g i else 0) N = if (A - y) % 4 = 0 ∧ 0 ≤ A - y ∧ A - y < 4 * (N : Int) then g ((A - y) / 4).toNat else 0
  | 0 => by
    rw [if_neg (by omega)]
    rfl
  | N + 1 => by
    simp only [sm]
    rw [sm_single N]
    by_cases h : y = A - 4 * (N : Int)
    · rw [if_neg (by omega), if_pos h, if_pos (by omega), show ((A - y) / 4).toNat = N by omega]
      exact Int64.zero_add _
    · rw [if_neg h, Int64.add_zero]
      by_cases q : (A - y) % 4 = 0 ∧ 0 ≤ A - y ∧ A - y < 4 * (N : Int)
      · rw [if_pos q, if_pos (by omega)]
      · rw [if_neg q, if_neg (by omega)]
theorem Dp_sum (m : Nat) (c : Int64) (x p : Int) : sm (fun i => if x = p + 2 * (m : Int) - 4 * (i : Int) then sgn m c * Cb m i else 0) (m + 1) = c * Dp m (x - p) := by
  rw [sm_single (y := x) (A := p + 2 * (m : Int)) (g := fun i => sgn m c * Cb m i) (m + 1), Dp_Db]
  unfold Db
  rw [show 2 * (m : Int) - (x - p) = p + 2 * (m : Int) - x by omega]
  by_cases q : (p + 2 * (m : Int) - x) % 4 = 0 ∧ 0 ≤ p + 2 * (m : Int) - x ∧ p + 2 * (m : Int) - x < 4 * ((m + 1 : Nat) : Int)
  · rw [if_pos q, if_pos (by omega)]
    unfold sgn
    split <;> grind
  · rw [if_neg q, if_neg (by omega)]
    exact (Int64.mul_zero).symm
def repM (f : Int → Int64) (mr : Nat → Int64) : Prop := ∀ j, j < 260 → mr j = f ((j : Int) - 128)
theorem i64_of {x : Int} (h1 : -2147483648 ≤ x) (h2 : x < 2147483648) : (iI x).toInt64 = Int64.ofInt x := by
  apply Int64.toInt_inj.mp
  rw [i64_toInt h1 h2, Int64.toInt_ofInt_of_le (by omega) (by omega)]
theorem lN_of (n : Nat) : lN n = Int64.ofInt (n : Int) := (Int64.ofInt_eq_ofNat).symm
theorem L_exp87 {c M : Nat} {pw : Int} (hc : c < 2147483648) (hM : M ≤ 28) (p1 : -10 ≤ pw) (p2 : pw ≤ 10) {mb : Nat → Int64} (hb : ∀ j, j ≤ M → mb j = Cb M j) {f : Int → Int64} : ∀ (m r k : Nat) (mr : Nat → Int64), k + r = M + 1 → r < m → repM (fun x => f x + sm (fun i => if x = pw + 2 * (M : Int) - 4 * (i : Int) then sgn M (lN c) * Cb M i else 0) k) mr →
    ∃ mr', L_M_expand_87 m (nI c) (iI pw) (nI M) (nI k) mr mb = some (mr', mb) ∧ repM (fun x => f x + lN c * Dp M (x - pw)) mr'
  | 0, r, k, mr, _, h2, _ => by omega
  | m + 1, 0, k, mr, h1, h2, h3 => by
    refine ⟨mr, ?_, fun j hj => ?_⟩
    · show J_M_expand_87 (L_M_expand_87 m) (nI c) (iI pw) (nI M) (nI k) mr mb = _
      unfold J_M_expand_87
      simp (disch := omega) only [lt32]
      rw [if_pos (by omega)]
    · obtain rfl : k = M + 1 := by omega
      rw [h3 j hj]
      dsimp only
      rw [Dp_sum]
  | m + 1, r + 1, k, mr, h1, h2, h3 => by
    have ei : (((128 : Int32) + iI pw) + ((2 : Int32) * nI M)) - ((4 : Int32) * nI k) = iI (128 + pw + 2 * (M : Int) - 4 * (k : Int)) := by
      rw [i128, i2, i4, nI_iI M, nI_iI k, iI_mul, iI_mul, iI_add, iI_add, iI_sub]
    have em : (nI M - nI M / (2 : Int32) * (2 : Int32)) = nI (M % 2) := pk_rem (a := M) (d := 2) (by omega) (by decide) (by decide)
    have key : ∀ (y0 : Int32), (y0.toInt64 = sgn M (lN c)) → ∃ mr', J_M_expand_134 (L_M_expand_87 m) (nI c) (iI pw) (nI M) (nI k) y0 (mr (iI (128 + pw + 2 * (M : Int) - 4 * (k : Int))).toNatClampNeg) (iI (128 + pw + 2 * (M : Int) - 4 * (k : Int))) mr mb = some (mr', mb) ∧ repM (fun x => f x + lN c * Dp M (x - pw)) mr' := fun y0 hy => by
      unfold J_M_expand_134
      simp (disch := omega) only [in32, cl32, in_i, cl_i, nI_1]
      rw [if_pos (by omega), if_pos (by omega), hy, hb k (by omega)]
      refine L_exp87 hc hM p1 p2 hb m r (k + 1) _ (by omega) (by omega) (fun j hj => ?_)
      by_cases w : j = (128 + pw + 2 * (M : Int) - 4 * (k : Int)).toNat
      · subst w
        rw [pk_uLs, h3 _ hj]
        simp only [sm]
        rw [if_pos (show ((((128 + pw + 2 * (M : Int) - 4 * (k : Int)).toNat : Nat) : Int) - 128 = pw + 2 * (M : Int) - 4 * (k : Int)) by omega)]
        grind
      · rw [pk_uLn w, h3 _ hj]
        simp only [sm]
        rw [if_neg (show ¬ ((j : Int) - 128 = pw + 2 * (M : Int) - 4 * (k : Int)) by omega), Int64.add_zero]
    show ∃ mr', J_M_expand_87 (L_M_expand_87 m) (nI c) (iI pw) (nI M) (nI k) mr mb = some (mr', mb) ∧ repM (fun x => f x + lN c * Dp M (x - pw)) mr'
    unfold J_M_expand_87
    rw [ei, em]
    simp (disch := omega) only [lt32, in_i]
    rw [if_neg (by omega), if_pos (by omega)]
    by_cases q : M % 2 = 0
    · rw [if_pos (by rw [q]; rfl)]
      refine key _ ?_
      unfold sgn
      rw [if_pos q, nI_l hc]
    · rw [if_neg (by rw [show M % 2 = 1 by omega]; decide)]
      refine key _ ?_
      unfold sgn
      rw [if_neg q, nI_iI, iI_neg, i64_of (by omega) (by omega), lN_of, ← Int64.ofInt_neg]
theorem L_exp43 {M i : Nat} (hM : M ≤ 28) (hi : i ≤ M) (h1i : 1 ≤ i) (rec33 : Int32 → Int32 → Int32 → Int32 → (Nat → Int64) → (Nat → Int64) → Option ((Nat → Int64) × (Nat → Int64))) (x1 x2 : Int32) (mr : Nat → Int64) : ∀ (m k : Nat) (mb : Nat → Int64), k ≤ i → k < m → (∀ j, j ≤ M → mb j = if k < j then Cb i j else Cb (i - 1) j) →
    ∃ mb', L_M_expand_43 rec33 m x1 x2 (nI M) (nI i) (nI k) mr mb = rec33 x1 x2 (nI M) (nI (i + 1)) mr mb' ∧ ∀ j, j ≤ M → mb' j = Cb i j
  | 0, k, mb, _, h2, _ => by omega
  | m + 1, 0, mb, h1, h2, h3 => by
    refine ⟨mb, ?_, fun j hj => ?_⟩
    · show J_M_expand_43 rec33 (L_M_expand_43 rec33 m) x1 x2 (nI M) (nI i) (nI 0) mr mb = _
      unfold J_M_expand_43
      rw [if_pos (show nI 0 ≤ 0 by decide), nI_1]
    · rw [h3 j hj]
      by_cases q : 0 < j
      · rw [if_pos q]
      · rw [if_neg q, show j = 0 by omega, Cb_0, Cb_0]
  | m + 1, k + 1, mb, h1, h2, h3 => by
    obtain ⟨mb', f1, r1⟩ := L_exp43 hM hi h1i rec33 x1 x2 mr m k (vp_updL mb (k + 1) (mb (k + 1) + mb k)) (by omega) (by omega) (fun j hj => by
      by_cases w : j = k + 1
      · subst w
        rw [pk_uLs, h3 _ hj, h3 k (by omega), if_neg (by omega), if_neg (by omega), if_pos (by omega)]
        obtain ⟨i', rfl⟩ : ∃ i', i = i' + 1 := ⟨i - 1, by omega⟩
        simp only [Cb, Nat.add_sub_cancel]
      · rw [pk_uLn w, h3 j hj]
        by_cases q : k + 1 < j
        · rw [if_pos q, if_pos (by omega)]
        · rw [if_neg q, if_neg (by omega)])
    refine ⟨mb', ?_, r1⟩
    show J_M_expand_43 rec33 (L_M_expand_43 rec33 m) x1 x2 (nI M) (nI i) (nI (k + 1)) mr mb = _
    unfold J_M_expand_43
    rw [pk_m1, show nI (k + 1) - (1 : Int32) = nI k from nI_pred k]
    simp (disch := omega) only [e0, le32, in32, cl32]
    rw [if_neg (by omega), if_pos (by omega), if_pos (by omega), if_pos (by omega)]
    exact f1
theorem L_exp33 {c M : Nat} {pw : Int} (hc : c < 2147483648) (hM : M ≤ 28) (p1 : -10 ≤ pw) (p2 : pw ≤ 10) {f : Int → Int64} {mr : Nat → Int64} (hr : repM f mr) : ∀ (m r i : Nat) (mb : Nat → Int64), i + r = M + 1 → 1 ≤ i → r < m → (∀ j, j ≤ M → mb j = Cb (i - 1) j) →
    ∃ mr' mb', L_M_expand_33 m (nI c) (iI pw) (nI M) (nI i) mr mb = some (mr', mb') ∧ repM (fun x => f x + lN c * Dp M (x - pw)) mr'
  | 0, r, i, mb, _, _, h2, _ => by omega
  | m + 1, 0, i, mb, h1, h0, h2, h3 => by
    obtain ⟨mr', f1, r1⟩ := L_exp87 hc hM p1 p2 (mb := mb) (f := f) (fun j hj => by rw [h3 j hj, show i - 1 = M by omega]) fu (M + 1) 0 mr (by omega) (by have : fu = 5000 := rfl; omega) (fun j hj => by rw [hr j hj]; simp only [sm]; exact (Int64.add_zero _).symm)
    refine ⟨mr', mb, ?_, r1⟩
    show J_M_expand_33 (L_M_expand_33 m) (nI c) (iI pw) (nI M) (nI i) mr mb = _
    unfold J_M_expand_33
    simp (disch := omega) only [lt32]
    rw [if_pos (by omega)]
    exact f1
  | m + 1, r + 1, i, mb, h1, h0, h2, h3 => by
    obtain ⟨mb1, f1, r1⟩ := L_exp43 hM (i := i) (by omega) h0 (L_M_expand_33 m) (nI c) (iI pw) mr fu i mb (Nat.le_refl _) (by have : fu = 5000 := rfl; omega) (fun j hj => by
      rw [h3 j hj]
      by_cases q : i < j
      · rw [if_pos q, Cb_big _ _ (by omega), Cb_big _ _ (by omega)]
      · rw [if_neg q])
    obtain ⟨mr', mb', f2, r2⟩ := L_exp33 hc hM p1 p2 hr m r (i + 1) mb1 (by omega) (by omega) (by omega) (fun j hj => by rw [r1 j hj, Nat.add_sub_cancel])
    refine ⟨mr', mb', ?_, r2⟩
    show J_M_expand_33 (L_M_expand_33 m) (nI c) (iI pw) (nI M) (nI i) mr mb = _
    unfold J_M_expand_33
    simp (disch := omega) only [lt32]
    rw [if_neg (by omega), f1, f2]
theorem L_exp3 {c M : Nat} {pw : Int} (hc : c < 2147483648) (hM : M ≤ 28) (p1 : -10 ≤ pw) (p2 : pw ≤ 10) {f : Int → Int64} {mr : Nat → Int64} (hr : repM f mr) : ∀ (m r k : Nat) (mb : Nat → Int64), k + r = M + 1 → r < m → (∀ j, j < k → mb j = 0) →
    ∃ mr' mb', L_M_expand_3 m (nI c) (iI pw) (nI M) (nI k) mr mb = some (mr', mb') ∧ repM (fun x => f x + lN c * Dp M (x - pw)) mr'
  | 0, r, k, mb, _, h2, _ => by omega
  | m + 1, 0, k, mb, h1, h2, h3 => by
    obtain ⟨mr', mb', f1, r1⟩ := L_exp33 hc hM p1 p2 hr fu M 1 (vp_updL mb 0 1) (by omega) (by omega) (by have : fu = 5000 := rfl; omega) (fun j hj => by
      by_cases w : j = 0
      · subst w; rw [pk_uLs]; rfl
      · rw [pk_uLn w, h3 j (by omega)]
        exact (Cb_big 0 j (by omega)).symm)
    refine ⟨mr', mb', ?_, r1⟩
    show J_M_expand_3 (L_M_expand_3 m) (nI c) (iI pw) (nI M) (nI k) mr mb = _
    unfold J_M_expand_3
    simp (disch := omega) only [lt32]
    rw [if_pos (by omega), if_pos (by decide)]
    exact f1
  | m + 1, r + 1, k, mb, h1, h2, h3 => by
    obtain ⟨mr', mb', f1, r1⟩ := L_exp3 hc hM p1 p2 hr m r (k + 1) (vp_updL mb k 0) (by omega) (by omega) (fun j hj => by
      by_cases w : j = k
      · subst w; exact pk_uLs
      · rw [pk_uLn w]; exact h3 j (by omega))
    refine ⟨mr', mb', ?_, r1⟩
    show J_M_expand_3 (L_M_expand_3 m) (nI c) (iI pw) (nI M) (nI k) mr mb = _
    unfold J_M_expand_3
    simp (disch := omega) only [lt32, in32, cl32, nI_1]
    rw [if_neg (by omega), if_pos (by omega)]
    exact f1
theorem F_expand {c M : Nat} {pw : Int} (hc : c < 2147483648) (hM : M ≤ 28) (p1 : -10 ≤ pw) (p2 : pw ≤ 10) {f : Int → Int64} {mr : Nat → Int64} (hr : repM f mr) (mb : Nat → Int64) : ∃ mr' mb', F_M_expand (nI c) (iI pw) (nI M) mr mb = some (mr', mb') ∧ repM (fun x => f x + lN c * Dp M (x - pw)) mr' :=
  L_exp3 hc hM p1 p2 hr fu (M + 1) 0 mb (by omega) (by have : fu = 5000 := rfl; omega) (fun j hj => by omega)
theorem F_expand0 (x1 x2 : Int32) (mr mb : Nat → Int64) : ∃ mb', F_M_expand x1 x2 (-1) mr mb = some (mr, mb') := by
  refine ⟨vp_updL mb (0 : Int32).toNatClampNeg 1, ?_⟩
  show J_M_expand_3 (L_M_expand_3 4999) x1 x2 (-1) 0 mr mb = _
  unfold J_M_expand_3
  rw [if_pos (by decide), if_pos (by decide)]
  show J_M_expand_33 (L_M_expand_33 4999) x1 x2 (-1) 1 mr _ = _
  unfold J_M_expand_33
  rw [if_pos (by decide)]
  show J_M_expand_87 (L_M_expand_87 4999) x1 x2 (-1) 0 mr _ = _
  unfold J_M_expand_87
  rw [if_pos (by decide)]
