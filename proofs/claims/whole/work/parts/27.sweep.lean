/-! sweep -/
def isum (f : Nat → Int) : Nat → Int
  | 0 => 0
  | m + 1 => isum f m + f m
theorem isum_ext {f g : Nat → Int} : ∀ {m : Nat}, (∀ i, i < m → f i = g i) → isum f m = isum g m
  | 0, _ => rfl
  | m + 1, h => by
    simp only [isum]
    rw [isum_ext (fun i hi => h i (by omega)), h m (by omega)]
theorem isum_one {f g : Nat → Int} {k : Nat} : ∀ {m : Nat}, k < m → (∀ i, i < m → i ≠ k → g i = f i) → isum g m = isum f m + (g k - f k)
  | 0, h, _ => by omega
  | m + 1, h, ho => by
    simp only [isum]
    by_cases q : k = m
    · subst q
      rw [isum_ext (f := g) (g := f) (fun i hi => ho i (by omega) (by omega))]
      omega
    · rw [isum_one (f := f) (by omega : k < m) (fun i hi hne => ho i (by omega) hne), ho m (by omega) (by omega)]
      omega
theorem isum_two {f g : Nat → Int} {p q m : Nat} (hp : p < m) (hq : q < m) (hpq : p ≠ q) (ho : ∀ i, i < m → i ≠ p → i ≠ q → g i = f i) : isum g m = isum f m + (g p - f p) + (g q - f q) := by
  have h1 : isum (fun i => if i = p then g p else f i) m = isum f m + (g p - f p) := by
    rw [isum_one (f := f) hp (fun i _ hne => if_neg hne)]
    simp
  rw [isum_one (f := fun i => if i = p then g p else f i) (g := g) hq (fun i hi hne => by
    by_cases w : i = p
    · subst w; rw [if_pos rfl]
    · rw [if_neg w]; exact ho i hi w hne), h1]
  rw [if_neg (Ne.symm hpq)]
theorem isum_le {f : Nat → Int} : ∀ {m : Nat}, (∀ i, i < m → 0 ≤ f i ∧ f i ≤ 1) → 0 ≤ isum f m ∧ isum f m ≤ m
  | 0, _ => by simp [isum]
  | m + 1, h => by
    have h1 := isum_le (f := f) (m := m) (fun i hi => h i (by omega))
    have h2 := h m (by omega)
    simp only [isum]
    omega
theorem isum_full {f : Nat → Int} : ∀ {m : Nat}, (∀ i, i < m → 0 ≤ f i ∧ f i ≤ 1) → isum f m = m → ∀ i, i < m → f i = 1
  | 0, _, _, i, hi => by omega
  | m + 1, h, e, i, hi => by
    have h1 := isum_le (f := f) (m := m) (fun i hi => h i (by omega))
    have h2 := h m (by omega)
    simp only [isum] at e
    by_cases q : i = m
    · subst q; omega
    · exact isum_full (f := f) (m := m) (fun i hi => h i (by omega)) (by omega) i (by omega)
theorem isum_ones {f : Nat → Int} : ∀ {m : Nat}, (∀ i, i < m → f i = 1) → isum f m = m
  | 0, _ => rfl
  | m + 1, h => by
    simp only [isum]
    rw [isum_ones (fun i hi => h i (by omega)), h m (by omega)]
    omega
/-- the labels of the places that are gone over; 0 elsewhere -/
def lo (lb : Nat → Nat) (O : Nat → Bool) (a : Nat) : Nat := if O a = true then lb a else 0
def sc (n : Nat) (lb : Nat → Nat) (O : Nat → Bool) (l : Nat) : Nat := cnt (lo lb O) (4 * n) l
def oc (n : Nat) (lb : Nat → Nat) (O : Nat → Bool) : Int := isum (fun a => if O a = true ∧ ¬ O (mate n lb a) = true then 1 else 0) (4 * n)
def ad (O : Nat → Bool) (p : Nat) : Nat → Bool := fun a => if a = p then true else O a
theorem sc_ad {n : Nat} {lb : Nat → Nat} {O : Nat → Bool} {p l : Nat} (hp : p < 4 * n) (hO : O p = false) (hl : 1 ≤ l) : sc n lb (ad O p) l = sc n lb O l + (if lb p = l then 1 else 0) := by
  unfold sc
  have : ∀ m, cnt (lo lb (ad O p)) m l = cnt (lo lb O) m l + (if p < m then (if lb p = l then 1 else 0) else 0) := by
    intro m
    induction m with
    | zero => simp [cnt]
    | succ m ih =>
      simp only [cnt]
      rw [ih]
      by_cases q : p = m
      · subst q
        have e1 : lo lb (ad O p) p = lb p := by simp [lo, ad]
        have e2 : lo lb O p = 0 := by simp [lo, hO]
        simp only [e1, e2, if_neg (show ¬ p < p by omega), if_pos (show p < p + 1 by omega), if_neg (show ¬ 0 = l by omega)]
        try omega
      · have e1 : lo lb (ad O p) m = lo lb O m := by simp [lo, ad, Ne.symm q]
        simp only [e1]
        by_cases w : p < m
        · simp only [if_pos w, if_pos (show p < m + 1 by omega)]; omega
        · simp only [if_neg w, if_neg (show ¬ p < m + 1 by omega)]; omega
  rw [this, if_pos hp]
theorem sc_mate {n : Nat} {lb : Nat → Nat} (hc : Cdx n lb) (hl : lbs n lb) {O : Nat → Bool} {p : Nat} (hp : p < 4 * n) (hO : O p = false) : sc n lb O (lb p) = 0 ↔ O (mate n lb p) = false := by
  obtain ⟨m1, m2, m3, m4⟩ := mate_spec hc hp
  unfold sc
  have h1 := hl p hp
  constructor
  · intro h
    cases hq : O (mate n lb p) with
    | false => rfl
    | true => exact absurd (by simp [lo, hq, m3] : lo lb O (mate n lb p) = lb p) (cnt_zero h m1)
  · intro h
    by_cases q : cnt (lo lb O) (4 * n) (lb p) = 0
    · exact q
    · obtain ⟨i, hi, e⟩ := (cnt_pos (f := lo lb O) (j := lb p) (m := 4 * n)).mpr (by omega)
      exfalso
      unfold lo at e
      by_cases w : O i = true
      · rw [if_pos w] at e
        by_cases v : i = p
        · subst v; rw [hO] at w; exact Bool.false_ne_true w
        · have := m4 i hi v e
          rw [this, h] at w
          exact Bool.false_ne_true w
      · rw [if_neg w] at e; omega
theorem oc_ad {n : Nat} {lb : Nat → Nat} (hc : Cdx n lb) {O : Nat → Bool} {p : Nat} (hp : p < 4 * n) (hO : O p = false) : oc n lb (ad O p) = oc n lb O + (if O (mate n lb p) = true then -1 else 1) := by
  obtain ⟨m1, m2, m3, m4⟩ := mate_spec hc hp
  unfold oc
  have mm := mate_inv hc p
  rw [isum_two (f := fun a => if O a = true ∧ ¬ O (mate n lb a) = true then 1 else 0) hp m1 (Ne.symm m2) (fun i hi h1 h2 => by
    have : mate n lb i ≠ p := fun q => h2 (by rw [← q, mate_inv hc])
    simp [ad, h1, this])]
  have a1 : ad O p p = true := by simp [ad]
  have a2 : ad O p (mate n lb p) = O (mate n lb p) := by simp [ad, m2]
  simp only [a1, a2, mm, hO]
  cases O (mate n lb p) <;> simp
theorem cnt40 (f : Nat → Nat) {n : Nat} (hn : n ≤ 10) (l : Nat) : cnt f (4 * n) l ≤ 40 := by
  have := cnt_le f l (4 * n)
  omega
/-- the class goes over a crossing -/
theorem L_goOver {n k : Nat} {lb : Nat → Nat} {lab : Nat → Int32} (hn : n ≤ 10) (hk : k < n) (hl : labs n lab lb) (hc : Cdx n lb) (go : Nat → Int32) : ∀ (m r i : Nat) (O : Nat → Bool) (g : Int) (sd : Nat → Int32), i + r = 4 → r < m → (∀ t, i ≤ t → t < 4 → O (4 * k + t) = false) → (∀ j, 1 ≤ j → sd j = nI (sc n lb O j)) →
    ∃ O' g' sd', L_B_goOver_6 m (nI k) (iI g) (nI (4 * k + i)) lab sd go = some (iI g', sd', upd go k 1) ∧ (∀ j, 1 ≤ j → sd' j = nI (sc n lb O' j)) ∧ g' - g = oc n lb O' - oc n lb O ∧ ∀ a, O' a = if 4 * k + i ≤ a ∧ a < 4 * k + 4 then true else O a
  | 0, r, i, O, g, sd, _, h2, _, _ => by omega
  | m + 1, 0, i, O, g, sd, h1, h2, h3, h4 => by
    refine ⟨O, g, sd, ?_, h4, by omega, fun a => by rw [if_neg (by omega)]⟩
    show J_B_goOver_6 (L_B_goOver_6 m) (nI k) (iI g) (nI (4 * k + i)) lab sd go = _
    unfold J_B_goOver_6
    rw [show nI k + (1 : Int32) = nI (k + 1) from nI_1 _, show (4 : Int32) * nI (k + 1) = nI (4 * (k + 1)) from pk_mul 4 (k + 1), if_pos (nI_le (by omega) (by omega)), if_pos (inb_nI (show k < 10 by omega) (by decide)), cl32 (by omega), vz1]
  | m + 1, r + 1, i, O, g, sd, h1, h2, h3, h4 => by
    have hp : 4 * k + i < 4 * n := by omega
    obtain ⟨l1, l2, l3⟩ := hl _ hp
    have hO := h3 i (Nat.le_refl _) (by omega)
    have c40 := cnt40 (lo lb O) hn (lb (4 * k + i))
    have esc : sc n lb O (lb (4 * k + i)) = cnt (lo lb O) (4 * n) (lb (4 * k + i)) := rfl
    obtain ⟨O', g', sd', f1, r1, r2, r3⟩ := L_goOver hn hk hl hc go m r (i + 1) (ad O (4 * k + i)) (g + (if O (mate n lb (4 * k + i)) = true then -1 else 1)) (upd sd (lb (4 * k + i)) (nI (sc n lb O (lb (4 * k + i)) + 1))) (by omega) (by omega) (fun t a b => by
      unfold ad
      rw [if_neg (by omega)]
      exact h3 t (by omega) b) (fun j hj => by
      rw [sc_ad hp hO hj]
      by_cases w : j = lb (4 * k + i)
      · subst w; rw [pk_us, if_pos rfl]
      · rw [pk_un w, h4 j hj, if_neg (fun q => w q.symm), Nat.add_zero])
    refine ⟨O', g', sd', ?_, r1, ?_, fun a => ?_⟩
    · show J_B_goOver_6 (L_B_goOver_6 m) (nI k) (iI g) (nI (4 * k + i)) lab sd go = _
      unfold J_B_goOver_6
      rw [show nI k + (1 : Int32) = nI (k + 1) from nI_1 _, show (4 : Int32) * nI (k + 1) = nI (4 * (k + 1)) from pk_mul 4 (k + 1), if_neg (nI_ge (by omega) (by omega)), cl32 (show 4 * k + i < 2147483648 by omega), l1, cl32 (show lb (4 * k + i) < 2147483648 by omega), h4 _ l2, show nI (sc n lb O (lb (4 * k + i))) + (1 : Int32) = nI (sc n lb O (lb (4 * k + i)) + 1) from nI_1 _, pk_us]
      simp only [in32 (n := 40) (show 4 * k + i < 2147483648 by omega), in32 (n := 100) (show lb (4 * k + i) < 2147483648 by omega), if_pos (show 4 * k + i < 40 by omega), if_pos l3, show nI (4 * k + i) + 1 = nI (4 * k + (i + 1)) from nI_1 _]
      by_cases w : O (mate n lb (4 * k + i)) = true
      · have : sc n lb O (lb (4 * k + i)) ≠ 0 := fun q => by
          have := (sc_mate hc hl.lbs hp hO).mp q
          rw [w] at this
          exact Bool.noConfusion this
        rw [if_neg (show ¬ nI (sc n lb O (lb (4 * k + i)) + 1) = (1 : Int32) from fun q => by
          have := (nI_eq (a := sc n lb O (lb (4 * k + i)) + 1) (b := 1) (by omega) (by decide)).mp q
          omega), im1, iI_add]
        rw [if_pos w] at f1
        exact f1
      · have : sc n lb O (lb (4 * k + i)) = 0 := (sc_mate hc hl.lbs hp hO).mpr (by simpa using w)
        rw [if_pos (show nI (sc n lb O (lb (4 * k + i)) + 1) = (1 : Int32) by rw [this]; rfl), i1, iI_add]
        rw [if_neg w] at f1
        exact f1
    · rw [oc_ad hc hp hO] at r2
      omega
    · rw [r3 a]
      unfold ad
      by_cases w : a = 4 * k + i
      · rw [if_neg (by omega), if_pos w, if_pos (by omega)]
      · by_cases v : 4 * k + (i + 1) ≤ a ∧ a < 4 * k + 4
        · rw [if_pos v, if_pos (by omega)]
        · rw [if_neg v, if_neg w, if_neg (by omega)]
/-- crossings that are gone over -/
def pl (ov : Nat → Bool) : Nat → Bool := fun a => ov (a / 4)
theorem F_goOver {n k : Nat} {lb : Nat → Nat} {lab : Nat → Int32} (hn : n ≤ 10) (hk : k < n) (hl : labs n lab lb) (hc : Cdx n lb) (go : Nat → Int32) {ov : Nat → Bool} (hov : ov k = false) {sd : Nat → Int32} (hs : ∀ j, 1 ≤ j → sd j = nI (sc n lb (pl ov) j)) : ∃ sd', F_B_goOver (nI k) lab sd go = some (iI (oc n lb (pl (ad ov k)) - oc n lb (pl ov)), sd', upd go k 1) ∧ ∀ j, 1 ≤ j → sd' j = nI (sc n lb (pl (ad ov k)) j) := by
  obtain ⟨O', g', sd', f1, r1, r2, r3⟩ := L_goOver hn hk hl hc go fu 4 0 (pl ov) 0 sd (by omega) (by decide) (fun t _ ht => by unfold pl; rw [show (4 * k + t) / 4 = k by omega]; exact hov) hs
  have e : O' = pl (ad ov k) := by
    funext a
    rw [r3 a]
    unfold pl ad
    by_cases w : a / 4 = k
    · rw [if_pos w, if_pos (by omega)]
    · rw [if_neg w, if_neg (by omega)]
  subst e
  refine ⟨sd', ?_, r1⟩
  rw [show oc n lb (pl (ad ov k)) - oc n lb (pl ov) = g' by omega]
  have : F_B_goOver (nI k) lab sd go = L_B_goOver_6 fu (nI k) (iI 0) (nI (4 * k + 0)) lab sd go := by
    show L_B_goOver_6 fu (nI k) 0 ((4 : Int32) * nI k) lab sd go = _
    rw [show (4 : Int32) * nI k = nI (4 * k) from pk_mul 4 k]
    rfl
  rw [this]
  exact f1
/-- how many places of a crossing stand on those gone over -/
def tj (n : Nat) (lb : Nat → Nat) (ov : Nat → Bool) (k : Nat) : Nat → Nat
  | 0 => 0
  | i + 1 => tj n lb ov k i + (if sc n lb (pl ov) (lb (4 * k + i)) = 0 then 0 else 1)
theorem tj_le (n : Nat) (lb : Nat → Nat) (ov : Nat → Bool) (k : Nat) : ∀ i, tj n lb ov k i ≤ i
  | 0 => Nat.le_refl _
  | i + 1 => by
    have := tj_le n lb ov k i
    simp only [tj]
    split <;> omega
theorem L_places {n k : Nat} {lb : Nat → Nat} {lab : Nat → Int32} (hn : n ≤ 10) (hk : k < n) (hl : labs n lab lb) {ov : Nat → Bool} {sd : Nat → Int32} (hs : ∀ j, 1 ≤ j → sd j = nI (sc n lb (pl ov) j)) : ∀ (m r i : Nat), i + r = 4 → r < m → L_B_placesJoined_6 m (nI k) (nI (tj n lb ov k i)) (nI (4 * k + i)) lab sd = some (nI (tj n lb ov k 4))
  | 0, r, i, _, h2 => by omega
  | m + 1, 0, i, h1, h2 => by
    show J_B_placesJoined_6 (L_B_placesJoined_6 m) (nI k) (nI (tj n lb ov k i)) (nI (4 * k + i)) lab sd = _
    unfold J_B_placesJoined_6
    rw [show nI k + (1 : Int32) = nI (k + 1) from nI_1 _, show (4 : Int32) * nI (k + 1) = nI (4 * (k + 1)) from pk_mul 4 (k + 1), if_pos (nI_le (by omega) (by omega)), show i = 4 by omega]
  | m + 1, r + 1, i, h1, h2 => by
    obtain ⟨l1, l2, l3⟩ := hl (4 * k + i) (by omega)
    have c40 := cnt40 (lo lb (pl ov)) hn (lb (4 * k + i))
    have esc : sc n lb (pl ov) (lb (4 * k + i)) = cnt (lo lb (pl ov)) (4 * n) (lb (4 * k + i)) := rfl
    have ih := L_places hn hk hl hs m r (i + 1) (by omega) (by omega)
    show J_B_placesJoined_6 (L_B_placesJoined_6 m) (nI k) (nI (tj n lb ov k i)) (nI (4 * k + i)) lab sd = _
    unfold J_B_placesJoined_6
    rw [show nI k + (1 : Int32) = nI (k + 1) from nI_1 _, show (4 : Int32) * nI (k + 1) = nI (4 * (k + 1)) from pk_mul 4 (k + 1), if_neg (nI_ge (by omega) (by omega)), cl32 (show 4 * k + i < 2147483648 by omega), l1, cl32 (show lb (4 * k + i) < 2147483648 by omega), hs _ l2]
    simp only [in32 (n := 40) (show 4 * k + i < 2147483648 by omega), in32 (n := 100) (show lb (4 * k + i) < 2147483648 by omega), if_pos (show 4 * k + i < 40 by omega), if_pos l3, nI_1]
    simp only [tj] at ih
    by_cases w : sc n lb (pl ov) (lb (4 * k + i)) = 0
    · rw [if_pos (show nI (sc n lb (pl ov) (lb (4 * k + i))) ≤ 0 by rw [w]; decide)]
      rw [if_pos w] at ih
      exact ih
    · rw [if_neg (show ¬ nI (sc n lb (pl ov) (lb (4 * k + i))) ≤ 0 from nI_nle (by omega) (by omega))]
      rw [if_neg w] at ih
      exact ih
theorem F_places {n k : Nat} {lb : Nat → Nat} {lab : Nat → Int32} (hn : n ≤ 10) (hk : k < n) (hl : labs n lab lb) {ov : Nat → Bool} {sd : Nat → Int32} (hs : ∀ j, 1 ≤ j → sd j = nI (sc n lb (pl ov) j)) : F_B_placesJoined (nI k) lab sd = some (nI (tj n lb ov k 4)) := by
  have := L_places hn hk hl hs fu 4 0 (by omega) (by decide)
  show L_B_placesJoined_6 fu (nI k) 0 ((4 : Int32) * nI k) lab sd = _
  rw [show (4 : Int32) * nI k = nI (4 * k) from pk_mul 4 k]
  exact this
theorem L_stands {n l : Nat} {lb : Nat → Nat} {ml mo : Nat → Int32} (hn : n ≤ 10) (hl : labs n ml lb) (h1l : 1 ≤ l) (hl2 : l < 100) {ov : Nat → Bool} (ho : ∀ k, k < n → mo k = if ov k = true then 1 else 0) : ∀ (m r i : Nat), i + r = 4 * n → r < m → L_M_stands_4 m (nI l) (if cnt (lo lb (pl ov)) i l = 0 then 0 else 1) (nI i) (nI n) ml mo = some (if cnt (lo lb (pl ov)) (4 * n) l = 0 then 0 else 1)
  | 0, r, i, _, h2 => by omega
  | m + 1, 0, i, h1, h2 => by
    show J_M_stands_4 (L_M_stands_4 m) (nI l) _ (nI i) (nI n) ml mo = _
    unfold J_M_stands_4
    rw [show (4 : Int32) * nI n = nI (4 * n) from pk_mul 4 n, if_pos (nI_le (by omega) (by omega)), show i = 4 * n by omega]
    by_cases w : cnt (lo lb (pl ov)) (4 * n) l = 0
    · simp only [if_pos w]; rfl
    · simp only [if_neg w]; rfl
  | m + 1, r + 1, i, h1, h2 => by
    obtain ⟨l1, l2, l3⟩ := hl i (by omega)
    have ih := L_stands hn hl h1l hl2 ho m r (i + 1) (by omega) (by omega)
    show J_M_stands_4 (L_M_stands_4 m) (nI l) _ (nI i) (nI n) ml mo = _
    unfold J_M_stands_4
    rw [show (4 : Int32) * nI n = nI (4 * n) from pk_mul 4 n, if_neg (nI_ge (by omega) (by omega)), show nI i / (4 : Int32) = nI (i / 4) from pk_div (a := i) (d := 4) (by omega) (by decide) (by decide), cl32 (show i / 4 < 2147483648 by omega), cl32 (show i < 2147483648 by omega), ho (i / 4) (by omega), l1]
    simp only [in32 (n := 40) (show i < 2147483648 by omega), in32 (n := 10) (show i / 4 < 2147483648 by omega), if_pos (show i < 40 by omega), if_pos (show i / 4 < 10 by omega), nI_1, eq32 (show lb i < 2147483648 by omega) (show l < 2147483648 by omega)]
    have ec : cnt (lo lb (pl ov)) (i + 1) l = cnt (lo lb (pl ov)) i l + (if lo lb (pl ov) i = l then 1 else 0) := rfl
    by_cases w : cnt (lo lb (pl ov)) i l = 0
    · simp only [if_pos w, if_true]
      by_cases v : ov (i / 4) = true
      · simp only [if_pos v, one_ne, if_false]
        have e : lo lb (pl ov) i = lb i := by simp [lo, pl, v]
        by_cases u : lb i = l
        · have x : cnt (lo lb (pl ov)) (i + 1) l = 1 := by rw [ec, w, e, if_pos u]
          rw [x] at ih
          simp only [if_pos u]
          exact ih
        · have x : cnt (lo lb (pl ov)) (i + 1) l = 0 := by rw [ec, w, e, if_neg u]
          rw [x] at ih
          simp only [if_neg u]
          exact ih
      · simp only [if_neg v, if_true]
        have e : lo lb (pl ov) i = 0 := by simp [lo, pl, v]
        have x : cnt (lo lb (pl ov)) (i + 1) l = 0 := by rw [ec, w, e, if_neg (show ¬ 0 = l by omega)]
        rw [x] at ih
        exact ih
    · simp only [if_neg w, one_ne, if_false]
      have x : ¬ cnt (lo lb (pl ov)) (i + 1) l = 0 := by rw [ec]; omega
      rw [if_neg x] at ih
      exact ih
theorem L_touch {n k : Nat} {lb : Nat → Nat} {ml mo : Nat → Int32} (hn : n ≤ 10) (hk : k < n) (hl : labs n ml lb) {ov : Nat → Bool} (ho : ∀ k, k < n → mo k = if ov k = true then 1 else 0) : ∀ (m r i : Nat), i + r = 4 → r < m → L_M_touching_4 m (nI k) (nI (tj n lb ov k i)) (nI i) (nI n) ml mo = some (nI (tj n lb ov k 4))
  | 0, r, i, _, h2 => by omega
  | m + 1, 0, i, h1, h2 => by
    show J_M_touching_4 (L_M_touching_4 m) (nI k) (nI (tj n lb ov k i)) (nI i) (nI n) ml mo = _
    unfold J_M_touching_4
    rw [if_pos (show (4 : Int32) ≤ nI i from nI_le (a := 4) (by omega) (by omega)), show i = 4 by omega]
  | m + 1, r + 1, i, h1, h2 => by
    obtain ⟨l1, l2, l3⟩ := hl (4 * k + i) (by omega)
    have ih := L_touch hn hk hl ho m r (i + 1) (by omega) (by omega)
    have st : F_M_stands (nI (lb (4 * k + i))) (nI n) ml mo = some (if sc n lb (pl ov) (lb (4 * k + i)) = 0 then 0 else 1) := L_stands hn hl l2 l3 ho fu (4 * n) 0 (by omega) (by have : fu = 5000 := rfl; omega)
    show J_M_touching_4 (L_M_touching_4 m) (nI k) (nI (tj n lb ov k i)) (nI i) (nI n) ml mo = _
    unfold J_M_touching_4
    rw [if_neg (show ¬ (4 : Int32) ≤ nI i from nI_ge (b := 4) (by omega) (by decide)), show (4 : Int32) * nI k = nI (4 * k) from pk_mul 4 k, nI_add, cl32 (show 4 * k + i < 2147483648 by omega), l1, st]
    simp only [Option.bind_some, in32 (n := 40) (show 4 * k + i < 2147483648 by omega), if_pos (show 4 * k + i < 40 by omega), nI_1]
    simp only [tj] at ih
    by_cases w : sc n lb (pl ov) (lb (4 * k + i)) = 0
    · simp only [if_pos w, if_true] at ih ⊢
      rw [show (0 : Int32) = nI 0 from rfl, nI_add]
      exact ih
    · simp only [if_neg w, one_ne, if_false] at ih ⊢
      exact ih
theorem F_touch {n k : Nat} {lb : Nat → Nat} {ml mo : Nat → Int32} (hn : n ≤ 10) (hk : k < n) (hl : labs n ml lb) {ov : Nat → Bool} (ho : ∀ k, k < n → mo k = if ov k = true then 1 else 0) : F_M_touching (nI k) (nI n) ml mo = some (nI (tj n lb ov k 4)) := L_touch hn hk hl ho fu 4 0 (by omega) (by decide)
/-- the choice of the next crossing -/
def sel (n : Nat) (lb : Nat → Nat) (ov : Nat → Bool) (d : Nat) : Nat → Nat × Int
  | 0 => (d, -1)
  | i + 1 => if (if ov i = true then -1 else (tj n lb ov i 4 : Int)) ≤ (sel n lb ov d i).2 then sel n lb ov d i else (i, if ov i = true then -1 else (tj n lb ov i 4 : Int))
theorem sel_spec (n : Nat) (lb : Nat → Nat) (ov : Nat → Bool) (d e : Nat) : ∀ i, (sel n lb ov d i).2 = (sel n lb ov e i).2 ∧ -1 ≤ (sel n lb ov d i).2 ∧ (sel n lb ov d i).2 ≤ 4 ∧ (((∀ k, k < i → ov k = true) ∧ (sel n lb ov d i).2 = -1 ∧ (sel n lb ov d i).1 = d) ∨ ((∃ k, k < i ∧ ov k = false) ∧ 0 ≤ (sel n lb ov d i).2 ∧ (sel n lb ov d i).1 = (sel n lb ov e i).1 ∧ (sel n lb ov d i).1 < i ∧ ov (sel n lb ov d i).1 = false))
  | 0 => ⟨rfl, by simp [sel], by simp [sel], Or.inl ⟨fun k hk => by omega, rfl, rfl⟩⟩
  | i + 1 => by
    obtain ⟨h1, h2, h3, h4⟩ := sel_spec n lb ov d e i
    have ht := tj_le n lb ov i 4
    simp only [sel]
    rw [← h1]
    by_cases v : ov i = true
    · simp only [if_pos v, if_pos h2]
      refine ⟨h1, h2, h3, ?_⟩
      rcases h4 with ⟨a, b, c⟩ | ⟨⟨k, a1, a2⟩, b, c, d1, d2⟩
      · refine Or.inl ⟨fun k hk => ?_, b, c⟩
        by_cases q : k = i
        · subst q; exact v
        · exact a k (by omega)
      · exact Or.inr ⟨⟨k, by omega, a2⟩, b, c, by omega, d2⟩
    · have vf : ov i = false := by simpa using v
      simp only [if_neg v]
      by_cases q : (tj n lb ov i 4 : Int) ≤ (sel n lb ov d i).2
      · simp only [if_pos q]
        refine ⟨h1, h2, h3, ?_⟩
        rcases h4 with ⟨a, b, c⟩ | ⟨⟨k, a1, a2⟩, b, c, d1, d2⟩
        · omega
        · exact Or.inr ⟨⟨k, by omega, a2⟩, b, c, by omega, d2⟩
      · simp only [if_neg q]
        exact ⟨trivial, by omega, by omega, Or.inr ⟨⟨i, by omega, vf⟩, by omega, trivial, by omega, vf⟩⟩
