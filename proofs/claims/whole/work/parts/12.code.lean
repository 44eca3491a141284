/-! CODES: every label that there is stands at two places -/
def Cdx (n : Nat) (lb : Nat → Nat) : Prop := ∀ i, i < 4 * n → cnt lb (4 * n) (lb i) = 2
theorem flt_spec (c : Nat → Nat) : ∀ (r l : Nat), 1 ≤ l → (flt c r l = 0 ∧ ∀ j, l ≤ j → j < l + r → c j = 0 ∨ c j = 2) ∨ (l ≤ flt c r l ∧ flt c r l < l + r ∧ c (flt c r l) ≠ 0 ∧ c (flt c r l) ≠ 2 ∧ ∀ j, l ≤ j → j < flt c r l → c j = 0 ∨ c j = 2)
  | 0, l, hl => Or.inl ⟨rfl, fun j h1 h2 => by omega⟩
  | r + 1, l, hl => by
    simp only [flt]
    have go : (c l = 0 ∨ c l = 2) → (flt c r (l + 1) = 0 ∧ ∀ j, l ≤ j → j < l + (r + 1) → c j = 0 ∨ c j = 2) ∨ (l ≤ flt c r (l + 1) ∧ flt c r (l + 1) < l + (r + 1) ∧ c (flt c r (l + 1)) ≠ 0 ∧ c (flt c r (l + 1)) ≠ 2 ∧ ∀ j, l ≤ j → j < flt c r (l + 1) → c j = 0 ∨ c j = 2) := fun h => by
      rcases flt_spec c r (l + 1) (by omega) with ⟨h1, h2⟩ | ⟨h1, h2, h3, h4, h5⟩
      · refine Or.inl ⟨h1, fun j a b => ?_⟩
        by_cases q : j = l
        · subst q; exact h
        · exact h2 j (by omega) (by omega)
      · refine Or.inr ⟨by omega, by omega, h3, h4, fun j a b => ?_⟩
        by_cases q : j = l
        · subst q; exact h
        · exact h5 j (by omega) b
    by_cases h0 : c l = 0
    · rw [if_pos h0]; exact go (Or.inl h0)
    · rw [if_neg h0]
      by_cases h2 : c l = 2
      · rw [if_pos h2]; exact go (Or.inr h2)
      · rw [if_neg h2]
        exact Or.inr ⟨Nat.le_refl _, by omega, h0, h2, fun j a b => by omega⟩
/-- the reference's way to the fault -/
def fm (c lb : Nat → Nat) : Nat → Nat
  | 0 => 0
  | i + 1 => if c (lb i) = 2 then fm c lb i else if fm c lb i = 0 then lb i else if fm c lb i ≤ lb i then fm c lb i else lb i
theorem fm_spec (c lb : Nat → Nat) : ∀ (i : Nat), (∀ t, t < i → 1 ≤ lb t) → (fm c lb i = 0 ∧ ∀ t, t < i → c (lb t) = 2) ∨ (1 ≤ fm c lb i ∧ (∃ t, t < i ∧ lb t = fm c lb i) ∧ c (fm c lb i) ≠ 2 ∧ ∀ t, t < i → c (lb t) ≠ 2 → fm c lb i ≤ lb t)
  | 0, _ => Or.inl ⟨rfl, fun t h => by omega⟩
  | i + 1, hp => by
    simp only [fm]
    have hi := hp i (by omega)
    rcases fm_spec c lb i (fun t h => hp t (by omega)) with ⟨h1, h2⟩ | ⟨h1, ⟨t0, h2, h3⟩, h4, h5⟩
    · by_cases q : c (lb i) = 2
      · rw [if_pos q]
        refine Or.inl ⟨h1, fun t ht => ?_⟩
        by_cases r : t = i
        · subst r; exact q
        · exact h2 t (by omega)
      · rw [if_neg q, if_pos h1]
        refine Or.inr ⟨hi, ⟨i, by omega, rfl⟩, q, fun t ht hc => ?_⟩
        by_cases r : t = i
        · subst r; exact Nat.le_refl _
        · exact absurd (h2 t (by omega)) hc
    · by_cases q : c (lb i) = 2
      · rw [if_pos q]
        refine Or.inr ⟨h1, ⟨t0, by omega, h3⟩, h4, fun t ht hc => ?_⟩
        by_cases r : t = i
        · subst r; exact absurd q hc
        · exact h5 t (by omega) hc
      · rw [if_neg q, if_neg (by omega)]
        by_cases w : fm c lb i ≤ lb i
        · rw [if_pos w]
          refine Or.inr ⟨h1, ⟨t0, by omega, h3⟩, h4, fun t ht hc => ?_⟩
          by_cases r : t = i
          · subst r; exact w
          · exact h5 t (by omega) hc
        · rw [if_neg w]
          refine Or.inr ⟨hi, ⟨i, by omega, rfl⟩, q, fun t ht hc => ?_⟩
          by_cases r : t = i
          · subst r; exact Nat.le_refl _
          · have := h5 t (by omega) hc; omega
def lbs (n : Nat) (lb : Nat → Nat) : Prop := ∀ i, i < 4 * n → 1 ≤ lb i ∧ lb i < 100
theorem labs.lbs {n : Nat} {lab : Nat → Int32} {lb : Nat → Nat} (h : labs n lab lb) : lbs n lb := fun i hi => (h i hi).2
theorem fm_ft {n : Nat} {lb : Nat → Nat} (h : lbs n lb) : fm (cnt lb (4 * n)) lb (4 * n) = ft n lb := by
  have h1 := fm_spec (cnt lb (4 * n)) lb (4 * n) (fun t ht => (h t ht).1)
  have h2 := flt_spec (cnt lb (4 * n)) 99 1 (by omega)
  have ez : ∀ j, cnt lb (4 * n) j ≠ 0 → ∃ t, t < 4 * n ∧ lb t = j := fun j hj => cnt_pos.mpr (by omega)
  have en : ∀ t, t < 4 * n → cnt lb (4 * n) (lb t) ≠ 0 := fun t ht => by have := (cnt_pos (f := lb) (j := lb t) (m := 4 * n)).mp ⟨t, ht, rfl⟩; omega
  unfold ft
  rcases h1 with ⟨a1, a2⟩ | ⟨a1, ⟨t0, a2, a3⟩, a4, a5⟩
  · rcases h2 with ⟨b1, b2⟩ | ⟨b1, b2, b3, b4, b5⟩
    · omega
    · obtain ⟨t, ht, e⟩ := ez _ b3
      have := a2 t ht
      rw [e] at this
      exact absurd this b4
  · have hr := h t0 a2
    have hz := en t0 a2
    rcases h2 with ⟨b1, b2⟩ | ⟨b1, b2, b3, b4, b5⟩
    · have := b2 (lb t0) hr.1 (by omega)
      rw [a3] at this hz
      omega
    · obtain ⟨t, ht, e⟩ := ez _ b3
      have c1 := a5 t ht (by rw [e]; exact b4)
      rw [a3] at hr hz
      rcases Nat.lt_trichotomy (fm (cnt lb (4 * n)) lb (4 * n)) (flt (cnt lb (4 * n)) 99 1) with q | q | q
      · have := b5 _ hr.1 q; omega
      · exact q
      · omega
theorem ft_code {n : Nat} {lb : Nat → Nat} (h : lbs n lb) : ft n lb = 0 ↔ Cdx n lb := by
  rw [← fm_ft h]
  rcases fm_spec (cnt lb (4 * n)) lb (4 * n) (fun t ht => (h t ht).1) with ⟨a1, a2⟩ | ⟨a1, ⟨t0, a2, a3⟩, a4, a5⟩
  · exact ⟨fun _ => a2, fun _ => a1⟩
  · refine ⟨fun q => by omega, fun q => ?_⟩
    have := q t0 a2
    rw [a3] at this
    exact absurd this a4
theorem ft_lt (n : Nat) (lb : Nat → Nat) : ft n lb < 100 := by
  unfold ft
  rcases flt_spec (cnt lb (4 * n)) 99 1 (by omega) with ⟨b1, b2⟩ | ⟨b1, b2, b3, b4, b5⟩ <;> omega
/-- the reference: standing, fault -/
theorem L_mstand {n : Nat} {ml : Nat → Int32} {lb : Nat → Nat} (hn : n ≤ 10) (hl : labs n ml lb) {l : Nat} (hl2 : l < 100) : ∀ (m i : Nat), i ≤ 4 * n → 4 * n < m + i → L_M_standing_4 m (nI l) (nI (cnt lb i l)) (nI i) (nI n) ml = some (nI (cnt lb (4 * n) l))
  | 0, i, hi, hm => by omega
  | m + 1, i, hi, hm => by
    show J_M_standing_4 (L_M_standing_4 m) (nI l) (nI (cnt lb i l)) (nI i) (nI n) ml = _
    unfold J_M_standing_4
    simp (disch := omega) only [e4, e0, pk_mul, le32, in32, cl32, nI_1]
    by_cases h : i < 4 * n
    · obtain ⟨h1, h2, h3⟩ := hl i h
      have ih := L_mstand hn hl hl2 m (i + 1) (by omega) (by omega)
      rw [if_neg (by omega), if_pos (by omega), h1]
      simp (disch := omega) only [eq32]
      simp only [cnt] at ih
      by_cases q : lb i = l
      · rw [if_pos q]; rw [if_pos q] at ih; exact ih
      · rw [if_neg q]; rw [if_neg q] at ih; rw [nI_add]; exact ih
    · obtain rfl : i = 4 * n := by omega
      rw [if_pos (by omega)]
theorem F_mstand {n : Nat} {ml : Nat → Int32} {lb : Nat → Nat} (hn : n ≤ 10) (hl : labs n ml lb) {l : Nat} (hl2 : l < 100) : F_M_standing (nI l) (nI n) ml = some (nI (cnt lb (4 * n) l)) :=
  L_mstand hn hl hl2 fu 0 (by omega) (by have : fu = 5000 := rfl; omega)
theorem fm_lt {c lb : Nat → Nat} : ∀ (i : Nat), (∀ t, t < i → lb t < 100) → fm c lb i < 100
  | 0, _ => by simp [fm]
  | i + 1, h => by
    have h1 := fm_lt (c := c) i (fun t ht => h t (by omega))
    have h2 := h i (by omega)
    simp only [fm]
    repeat' split
    all_goals omega
theorem L_mfault {n : Nat} {ml : Nat → Int32} {lb : Nat → Nat} (hn : n ≤ 10) (hl : labs n ml lb) : ∀ (m i : Nat), i ≤ 4 * n → 4 * n < m + i → L_M_fault_4 m (nI (fm (cnt lb (4 * n)) lb i)) (nI i) (nI n) ml = some (nI (fm (cnt lb (4 * n)) lb (4 * n)))
  | 0, i, hi, hm => by omega
  | m + 1, i, hi, hm => by
    show J_M_fault_4 (L_M_fault_4 m) (nI (fm (cnt lb (4 * n)) lb i)) (nI i) (nI n) ml = _
    unfold J_M_fault_4
    unfold J_M_fault_42
    simp (disch := omega) only [e4, pk_mul, le32, in32, cl32, nI_1]
    by_cases h : i < 4 * n
    · obtain ⟨h1, h2, h3⟩ := hl i h
      have ih := L_mfault hn hl m (i + 1) (by omega) (by omega)
      have hf := fm_lt (c := cnt lb (4 * n)) (lb := lb) i (fun t ht => (hl t (by omega)).2.2)
      have hc := cnt_le lb (lb i) (4 * n)
      rw [if_neg (by omega), if_pos (by omega), h1, F_mstand hn hl h3]
      simp only [Option.bind_some]
      simp (disch := omega) only [e2, e0, eq32, le32]
      simp only [fm] at ih
      by_cases q : cnt lb (4 * n) (lb i) = 2
      · rw [if_pos q]; rw [if_pos q] at ih; exact ih
      · rw [if_neg q]; rw [if_neg q] at ih
        by_cases q2 : fm (cnt lb (4 * n)) lb i = 0
        · rw [if_pos q2, if_pos (by omega)]; rw [if_pos q2] at ih; exact ih
        · rw [if_neg q2, if_pos (by omega)]; rw [if_neg q2] at ih
          by_cases q3 : fm (cnt lb (4 * n)) lb i ≤ lb i
          · rw [if_pos q3]; rw [if_pos q3] at ih; exact ih
          · rw [if_neg q3, if_pos (by omega)]; rw [if_neg q3] at ih; exact ih
    · obtain rfl : i = 4 * n := by omega
      rw [if_pos (by omega)]
theorem F_mfault {n : Nat} {ml : Nat → Int32} {lb : Nat → Nat} (hn : n ≤ 10) (hl : labs n ml lb) : F_M_fault (nI n) ml = some (nI (ft n lb)) := by
  rw [← fm_ft hl.lbs]
  exact L_mfault hn hl fu 0 (by omega) (by have : fu = 5000 := rfl; omega)
/-- two places bear a label that stands at two -/
theorem cnt_ext {f g : Nat → Nat} {j : Nat} : ∀ {m : Nat}, (∀ i, i < m → (f i = j ↔ g i = j)) → cnt f m j = cnt g m j
  | 0, _ => rfl
  | m + 1, h => by
    simp only [cnt]
    rw [cnt_ext (fun i hi => h i (by omega))]
    have := h m (by omega)
    by_cases q : f m = j
    · rw [if_pos q, if_pos (this.mp q)]
    · rw [if_neg q, if_neg (fun w => q (this.mpr w))]
theorem cnt_zero {f : Nat → Nat} {j m : Nat} (h : cnt f m j = 0) {i : Nat} (hi : i < m) : f i ≠ j := fun q => by
  have := (cnt_pos (f := f) (j := j) (m := m)).mp ⟨i, hi, q⟩
  omega
theorem cnt_one {f : Nat → Nat} {j : Nat} : ∀ {m : Nat}, cnt f m j = 1 → ∃ a, a < m ∧ f a = j ∧ ∀ i, i < m → f i = j → i = a
  | 0, h => by simp [cnt] at h
  | m + 1, h => by
    simp only [cnt] at h
    by_cases q : f m = j
    · rw [if_pos q] at h
      refine ⟨m, by omega, q, fun i hi e => ?_⟩
      by_cases r : i = m
      · exact r
      · exact absurd e (cnt_zero (by omega) (by omega : i < m))
    · rw [if_neg q] at h
      obtain ⟨a, h1, h2, h3⟩ := cnt_one (by omega : cnt f m j = 1)
      refine ⟨a, by omega, h2, fun i hi e => ?_⟩
      by_cases r : i = m
      · subst r; exact absurd e q
      · exact h3 i (by omega) e
theorem cnt_two {f : Nat → Nat} {j : Nat} : ∀ {m : Nat}, cnt f m j = 2 → ∃ a b, a < b ∧ b < m ∧ f a = j ∧ f b = j ∧ ∀ i, i < m → f i = j → i = a ∨ i = b
  | 0, h => by simp [cnt] at h
  | m + 1, h => by
    simp only [cnt] at h
    by_cases q : f m = j
    · rw [if_pos q] at h
      obtain ⟨a, h1, h2, h3⟩ := cnt_one (by omega : cnt f m j = 1)
      refine ⟨a, m, h1, by omega, h2, q, fun i hi e => ?_⟩
      by_cases r : i = m
      · exact Or.inr r
      · exact Or.inl (h3 i (by omega) e)
    · rw [if_neg q] at h
      obtain ⟨a, b, h1, h2, h3, h4, h5⟩ := cnt_two (by omega : cnt f m j = 2)
      refine ⟨a, b, h1, by omega, h3, h4, fun i hi e => ?_⟩
      by_cases r : i = m
      · subst r; exact absurd e q
      · exact h5 i (by omega) e
/-- the other place of a place's label, the last of them that is found -/
def pr (lb : Nat → Nat) (p : Nat) : Nat → Nat
  | 0 => p
  | b + 1 => if p ≠ b ∧ lb p = lb b then b else pr lb p b
def mate (n : Nat) (lb : Nat → Nat) (p : Nat) : Nat := if p < 4 * n then pr lb p (4 * n) else p
theorem pr_spec {lb : Nat → Nat} {p : Nat} : ∀ (b : Nat), (pr lb p b = p ∧ ∀ i, i < b → lb p = lb i → i = p) ∨ (pr lb p b < b ∧ pr lb p b ≠ p ∧ lb (pr lb p b) = lb p)
  | 0 => Or.inl ⟨rfl, fun i h => by omega⟩
  | b + 1 => by
    simp only [pr]
    by_cases q : p ≠ b ∧ lb p = lb b
    · rw [if_pos q]; exact Or.inr ⟨by omega, fun h => q.1 h.symm, q.2.symm⟩
    · rw [if_neg q]
      rcases pr_spec (lb := lb) (p := p) b with ⟨h1, h2⟩ | ⟨h1, h2, h3⟩
      · refine Or.inl ⟨h1, fun i hi e => ?_⟩
        by_cases r : i = b
        · subst r
          by_cases w : p = i
          · exact w.symm
          · exact absurd ⟨w, e⟩ q
        · exact h2 i (by omega) e
      · exact Or.inr ⟨by omega, h2, h3⟩
theorem mate_spec {n : Nat} {lb : Nat → Nat} (h : Cdx n lb) {p : Nat} (hp : p < 4 * n) : mate n lb p < 4 * n ∧ mate n lb p ≠ p ∧ lb (mate n lb p) = lb p ∧ ∀ q, q < 4 * n → q ≠ p → lb q = lb p → q = mate n lb p := by
  obtain ⟨a, b, h1, h2, h3, h4, h5⟩ := cnt_two (h p hp)
  have hpab := h5 p hp rfl
  have em : mate n lb p = pr lb p (4 * n) := if_pos hp
  rw [em]
  rcases pr_spec (lb := lb) (p := p) (4 * n) with ⟨g1, g2⟩ | ⟨g1, g2, g3⟩
  · have ga := g2 a (by omega) h3.symm
    have gb := g2 b h2 h4.symm
    omega
  · refine ⟨g1, g2, g3, fun q hq hne e => ?_⟩
    have r1 := h5 q hq e
    have r2 := h5 _ g1 g3
    omega
theorem mate_inv {n : Nat} {lb : Nat → Nat} (h : Cdx n lb) (p : Nat) : mate n lb (mate n lb p) = p := by
  by_cases hp : p < 4 * n
  · obtain ⟨h1, h2, h3, h4⟩ := mate_spec h hp
    obtain ⟨g1, g2, g3, g4⟩ := mate_spec h h1
    exact (g4 p hp (fun q => h2 q.symm) h3.symm).symm
  · have : mate n lb p = p := if_neg hp
    rw [this, this]
theorem mate_live {n : Nat} {lb : Nat → Nat} (h : Cdx n lb) (p : Nat) : mate n lb p ≠ p ↔ p < 4 * n := by
  refine ⟨fun q => ?_, fun q => (mate_spec h q).2.1⟩
  by_cases hp : p < 4 * n
  · exact hp
  · exact absurd (if_neg hp) q
