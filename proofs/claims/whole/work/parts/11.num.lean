/-! NUMBERS: ints by their naturals -/
theorem e0 : (0 : Int32) = nI 0 := rfl
theorem e1 : (1 : Int32) = nI 1 := rfl
theorem e2 : (2 : Int32) = nI 2 := rfl
theorem e3 : (3 : Int32) = nI 3 := rfl
theorem e4 : (4 : Int32) = nI 4 := rfl
theorem e5 : (5 : Int32) = nI 5 := rfl
theorem e9 : (9 : Int32) = nI 9 := rfl
theorem e10 : (10 : Int32) = nI 10 := rfl
theorem e29 : (29 : Int32) = nI 29 := rfl
theorem e30 : (30 : Int32) = nI 30 := rfl
theorem e32 : (32 : Int32) = nI 32 := rfl
theorem e99 : (99 : Int32) = nI 99 := rfl
theorem e100 : (100 : Int32) = nI 100 := rfl
theorem e128 : (128 : Int32) = nI 128 := rfl
theorem e260 : (260 : Int32) = nI 260 := rfl
theorem e672 : (672 : Int32) = nI 672 := rfl
theorem le32 {a b : Nat} (ha : a < 2147483648) (hb : b < 2147483648) : (nI a ≤ nI b) = (a ≤ b) := propext (nI_leI ha hb)
theorem lt32 {a b : Nat} (ha : a < 2147483648) (hb : b < 2147483648) : (nI a < nI b) = (a < b) := propext (nI_ltI ha hb)
theorem eq32 {a b : Nat} (ha : a < 2147483648) (hb : b < 2147483648) : (nI a = nI b) = (a = b) := propext (nI_eq ha hb)
theorem cl32 {a : Nat} (ha : a < 2147483648) : (nI a).toNatClampNeg = a := nI_clamp ha
theorem in32 {a n : Nat} (ha : a < 2147483648) : (inb (nI a) n = true) = (a < n) := by
  refine propext (inb_iff.trans ?_)
  rw [nI_toInt ha]
  omega
theorem s32 {a b : Nat} (h : b ≤ a) : nI a - nI b = nI (a - b) := pk_sub h
theorem vz0 : vp_nar .boolean (0 : Int32) = 0 := rfl
theorem vz1 : vp_nar .boolean (1 : Int32) = 1 := rfl
theorem nz32 {a : Nat} (ha : a < 2147483648) : (nI a = 0) = (a = 0) := by rw [e0]; exact eq32 ha (by omega)
/-- how many of the first m are j -/
def cnt (f : Nat → Nat) : Nat → Nat → Nat
  | 0, _ => 0
  | m + 1, j => cnt f m j + if f m = j then 1 else 0
theorem cnt_le (f : Nat → Nat) (j : Nat) : ∀ m, cnt f m j ≤ m
  | 0 => Nat.le_refl _
  | m + 1 => by
    have := cnt_le f j m
    simp only [cnt]
    split <;> omega
theorem cnt_pos {f : Nat → Nat} {j : Nat} : ∀ {m : Nat}, (∃ i, i < m ∧ f i = j) ↔ 0 < cnt f m j
  | 0 => by simp [cnt]
  | m + 1 => by
    simp only [cnt]
    constructor
    · rintro ⟨i, hi, e⟩
      by_cases q : i = m
      · subst q; simp [e]
      · have := (cnt_pos (f := f) (j := j) (m := m)).mp ⟨i, by omega, e⟩
        omega
    · intro h
      by_cases q : f m = j
      · exact ⟨m, by omega, q⟩
      · simp only [q, if_false, Nat.add_zero] at h
        obtain ⟨i, hi, e⟩ := (cnt_pos (f := f) (j := j) (m := m)).mpr h
        exact ⟨i, by omega, e⟩
/-- the least label from l on, of r labels, that stands neither nowhere nor at two places -/
def flt (c : Nat → Nat) : Nat → Nat → Nat
  | 0, _ => 0
  | r + 1, l => if c l = 0 then flt c r (l + 1) else if c l = 2 then flt c r (l + 1) else l
def ft (n : Nat) (lb : Nat → Nat) : Nat := flt (cnt lb (4 * n)) 99 1
/-- the class's own loops: order -/
def idO (od : Nat → Int32) : Nat → Int32 := fun j => if j < 10 then nI j else od j
theorem L_order : ∀ (m i : Nat) (od : Nat → Int32) (we : Int32), i ≤ 10 → 10 < m + i → L_B_orderAsGiven_2 m (nI i) od we = some (fun j => if i ≤ j ∧ j < 10 then nI j else od j, 0)
  | 0, i, _, _, hi, hm => by omega
  | m + 1, i, od, we, hi, hm => by
    show J_B_orderAsGiven_2 (L_B_orderAsGiven_2 m) (nI i) od we = _
    unfold J_B_orderAsGiven_2
    simp (disch := omega) only [e10, le32, in32, cl32, nI_1]
    by_cases h : i < 10
    · rw [if_neg (by omega), if_pos h, L_order m (i + 1) _ _ (by omega) (by omega)]
      congr 2
      funext j
      simp only [upd]
      by_cases q : j = i
      · subst q; simp [h]
      · by_cases q2 : i + 1 ≤ j ∧ j < 10
        · rw [if_pos q2, if_pos (by omega)]
        · rw [if_neg q2, if_neg q, if_neg (by omega)]
    · obtain rfl : i = 10 := by omega
      rw [if_pos (by omega)]
      congr 2
      funext j
      rw [if_neg (by omega)]
theorem F_order (od : Nat → Int32) (we : Int32) : F_B_orderAsGiven od we = some (idO od, 0) := by
  show L_B_orderAsGiven_2 fu (nI 0) od we = _
  rw [L_order fu 0 od we (by omega) (by decide)]
  simp only [Nat.zero_le, true_and]
  rfl
theorem pure_order : ∃ r, F_B_orderAsGiven (fun _ => 0) 0 = some r := ⟨_, F_order _ _⟩
/-- the labels at the first 4 n places are lb's, 1 to 99 -/
def labs (n : Nat) (lab : Nat → Int32) (lb : Nat → Nat) : Prop := ∀ i, i < 4 * n → lab i = nI (lb i) ∧ 1 ≤ lb i ∧ lb i < 100
theorem L_count {n : Nat} {lab : Nat → Int32} {lb : Nat → Nat} (hn : n ≤ 10) (hl : labs n lab lb) : ∀ (m i : Nat) (sd : Nat → Int32), i ≤ 4 * n → 4 * n < m + i → (∀ j, sd j = nI (cnt lb i j)) → L_B_countStanding_10 m (nI i) lab (nI n) sd = some (fun j => nI (cnt lb (4 * n) j))
  | 0, i, _, hi, hm, _ => by omega
  | m + 1, i, sd, hi, hm, hs => by
    show J_B_countStanding_10 (L_B_countStanding_10 m) (nI i) lab (nI n) sd = _
    unfold J_B_countStanding_10
    simp (disch := omega) only [e4, pk_mul, le32, in32, cl32, nI_1]
    by_cases h : i < 4 * n
    · obtain ⟨h1, h2, h3⟩ := hl i h
      rw [if_neg (by omega), if_pos (by omega), h1]
      simp (disch := omega) only [in32, cl32]
      rw [if_pos (by omega), if_pos (by omega)]
      refine L_count hn hl m (i + 1) _ (by omega) (by omega) (fun j => ?_)
      simp only [upd, cnt]
      by_cases q : j = lb i
      · subst q; simp only [if_true]; rw [hs, e1, nI_add]
      · rw [if_neg q, hs, if_neg (fun e => q e.symm), Nat.add_zero]
    · obtain rfl : i = 4 * n := by omega
      rw [if_pos (by omega)]
      congr 1
      funext j
      exact hs j
def stand (n : Nat) (lb : Nat → Nat) : Nat → Int32 := fun j => nI (cnt lb (4 * n) j)
theorem F_count {n : Nat} {lab : Nat → Int32} {lb : Nat → Nat} (hn : n ≤ 10) (hl : labs n lab lb) (sd : Nat → Int32) : F_B_countStanding lab (nI n) sd = some (stand n lb) := by
  show L_B_countStanding_10 fu (nI 0) lab (nI n) (fun _ => 0) = _
  exact L_count hn hl fu 0 _ (by omega) (by have : fu = 5000 := rfl; omega) (fun j => rfl)
theorem L_fault {n : Nat} {lb : Nat → Nat} (hn : n ≤ 10) (lab : Nat → Int32) (cc : Int32) : ∀ (m r l : Nat), l + r = 100 → r < m → L_B_fault_6 m (nI l) lab cc (stand n lb) = some (nI (flt (cnt lb (4 * n)) r l), stand n lb)
  | 0, r, l, h, hm => by omega
  | m + 1, r, l, h, hm => by
    show J_B_fault_6 (L_B_fault_6 m) (nI l) lab cc (stand n lb) = _
    unfold J_B_fault_6
    simp (disch := omega) only [e99, e2, e0, lt32, in32, cl32, nI_1]
    have hc : cnt lb (4 * n) l ≤ 40 := by have := cnt_le lb l (4 * n); omega
    match r, h, hm with
    | 0, h, hm =>
      rw [if_pos (by omega)]
      rfl
    | r + 1, h, hm =>
      rw [if_neg (by omega), if_pos (by omega)]
      have es : stand n lb l = nI (cnt lb (4 * n) l) := rfl
      rw [es]
      simp (disch := omega) only [eq32]
      simp only [flt]
      have ih := L_fault (lb := lb) hn lab cc m r (l + 1) (by omega) (by omega)
      by_cases h0 : cnt lb (4 * n) l = 0
      · rw [if_pos h0, if_pos h0]; exact ih
      · rw [if_neg h0, if_neg h0, if_pos (by omega)]
        by_cases h2 : cnt lb (4 * n) l = 2
        · rw [if_pos h2, if_pos h2]; exact ih
        · rw [if_neg h2, if_neg h2]
theorem F_fault {n : Nat} {lab : Nat → Int32} {lb : Nat → Nat} (hn : n ≤ 10) (hl : labs n lab lb) (sd : Nat → Int32) : F_B_fault lab (nI n) sd = some (nI (ft n lb), stand n lb) := by
  show Option.bind (F_B_countStanding lab (nI n) sd) (fun v_1 => L_B_fault_6 fu (nI 1) lab (nI n) v_1) = _
  rw [F_count hn hl]
  exact L_fault hn lab (nI n) fu 99 1 (by omega) (by decide)
