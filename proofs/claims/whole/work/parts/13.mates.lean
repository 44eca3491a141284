/-! MATES: what both sides find -/
theorem L_follow {n : Nat} {lab : Nat → Int32} {lb : Nat → Nat} (hn : n ≤ 10) (hl : labs n lab lb) (hc : Cdx n lb) : ∀ (m i : Nat) (oe fp : Nat → Int32), i ≤ 4 * n → 4 * n < m + i → (∀ l, (∀ t, t < i → lb t ≠ l) → fp l = -1) → (∀ t, t < i → (∀ u, u < i → lb u = lb t → t ≤ u) → fp (lb t) = nI t) → (∀ p, p < i → mate n lb p < i → oe p = nI (mate n lb p)) →
    ∃ oe' fp', L_W_followLabels_10 m (nI (4 * n)) (nI i) oe fp lab = some (oe', fp') ∧ ∀ p, p < 4 * n → oe' p = nI (mate n lb p)
  | 0, i, _, _, hi, hm, _, _, _ => by omega
  | m + 1, i, oe, fp, hi, hm, h1, h2, h3 => by
    have ih := L_follow hn hl hc m (i + 1)
    suffices h : ∃ oe' fp', J_W_followLabels_10 (L_W_followLabels_10 m) (nI (4 * n)) (nI i) oe fp lab = some (oe', fp') ∧ ∀ p, p < 4 * n → oe' p = nI (mate n lb p) from h
    unfold J_W_followLabels_10
    simp (disch := omega) only [le32, in32, cl32, nI_1]
    by_cases h : i < 4 * n
    · obtain ⟨g1, g2, g3⟩ := hl i h
      obtain ⟨m1, m2, m3, m4⟩ := mate_spec hc h
      rw [if_neg (by omega), if_pos (by omega), g1]
      simp (disch := omega) only [in32, cl32]
      rw [if_pos (by omega)]
      by_cases q : mate n lb i < i
      · have ef : fp (lb i) = nI (mate n lb i) := by
          rw [← m3]
          refine h2 _ q (fun u hu e => ?_)
          have := m4 u (by omega) (by omega) (by rw [e, m3])
          omega
        rw [ef, if_pos (nI_pos' (by omega))]
        simp (disch := omega) only [in32, cl32]
        rw [if_pos (by omega), if_pos (by omega)]
        refine ih _ fp (by omega) (by omega) (fun l hl' => h1 l (fun t ht => hl' t (by omega))) (fun t ht hf => ?_) (fun p hp hpm => ?_)
        · by_cases r : t = i
          · subst r
            have := hf (mate n lb t) (by omega) m3
            omega
          · exact h2 t (by omega) (fun u hu e => hf u (by omega) e)
        · by_cases r : p = i
          · subst r; exact pk_us
          · rw [pk_un r]
            by_cases r2 : p = mate n lb i
            · subst r2; rw [pk_us, mate_inv hc]
            · rw [pk_un r2]
              refine h3 p (by omega) ?_
              have : mate n lb p ≠ i := fun e => r2 (by rw [← e, mate_inv hc])
              omega
      · have no : ∀ t, t < i → lb t ≠ lb i := fun t ht e => by
          have := m4 t (by omega) (by omega) e
          omega
        rw [h1 _ no, if_neg (by decide), if_pos (by omega), if_pos (by omega)]
        refine ih oe _ (by omega) (by omega) (fun l hl' => ?_) (fun t ht hf => ?_) (fun p hp hpm => ?_)
        · rw [pk_un (fun e => hl' i (by omega) e.symm)]
          exact h1 l (fun t ht => hl' t (by omega))
        · by_cases r : t = i
          · subst r; exact pk_us
          · rw [pk_un (no t (by omega))]
            exact h2 t (by omega) (fun u hu e => hf u (by omega) e)
        · by_cases r : p = i
          · subst r; omega
          · refine h3 p (by omega) ?_
            have : mate n lb p ≠ i := fun e => by
              have := mate_inv hc p
              rw [e] at this
              omega
            omega
    · obtain rfl : i = 4 * n := by omega
      rw [if_pos (by omega)]
      exact ⟨oe, fp, rfl, fun p hp => h3 p hp (mate_spec hc hp).1⟩
theorem F_follow {n : Nat} {lab : Nat → Int32} {lb : Nat → Nat} (hn : n ≤ 10) (hl : labs n lab lb) (hc : Cdx n lb) (oe fp : Nat → Int32) : ∃ oe' fp', F_W_followLabels (nI (4 * n)) oe fp lab = some (oe', fp') ∧ ∀ p, p < 4 * n → oe' p = nI (mate n lb p) :=
  L_follow hn hl hc fu 0 oe (fun _ => -1) (by omega) (by have : fu = 5000 := rfl; omega) (fun _ _ => rfl) (fun t ht => by omega) (fun p hp => by omega)
def mv (mm : Nat → Int32) (lb : Nat → Nat) (a b : Nat) : Int32 := if pr lb a b = a then mm a else nI (pr lb a b)
theorem upd_upd {f : Nat → Int32} {k : Nat} {x y : Int32} : upd (upd f k x) k y = upd f k y := by
  funext j
  simp only [upd]
  split <;> rfl
theorem L_mates1 {n : Nat} {ml : Nat → Int32} {lb : Nat → Nat} (hn : n ≤ 10) (hl : labs n ml lb) (rec2 : Int32 → Int32 → (Nat → Int32) → (Nat → Int32) → Option (Nat → Int32)) {a : Nat} (ha : a < 4 * n) (mm : Nat → Int32) : ∀ (m b : Nat), b ≤ 4 * n → 4 * n < m + b →
    L_M_findMates_14 rec2 m (nI a) (nI b) (nI n) ml (upd mm a (mv mm lb a b)) = rec2 (nI (a + 1)) (nI n) ml (upd mm a (mv mm lb a (4 * n)))
  | 0, b, hb, hm => by omega
  | m + 1, b, hb, hm => by
    have ih := L_mates1 hn hl rec2 ha mm m (b + 1)
    show J_M_findMates_14 rec2 (L_M_findMates_14 rec2 m) (nI a) (nI b) (nI n) ml (upd mm a (mv mm lb a b)) = _
    unfold J_M_findMates_14
    unfold J_M_findMates_53
    simp (disch := omega) only [e4, pk_mul, le32, in32, cl32, nI_1, eq32]
    obtain ⟨a1, a2, a3⟩ := hl a ha
    by_cases h : b < 4 * n
    · have ih := ih (by omega) (by omega)
      obtain ⟨b1, b2, b3⟩ := hl b h
      rw [if_neg (by omega), a1, b1]
      simp (disch := omega) only [eq32]
      have same : ∀ v : Int32, upd (upd mm a v) a ((upd mm a v) a) = upd mm a v := fun v => by
        rw [upd_upd, pk_us]
      by_cases q : a = b
      · have ev : mv mm lb a (b + 1) = mv mm lb a b := by
          have e : pr lb a (b + 1) = pr lb a b := by simp only [pr]; rw [if_neg (fun w => w.1 q)]
          unfold mv
          rw [e]
        rw [if_pos q, if_pos (by omega), if_pos (by omega), same]
        rw [ev] at ih
        exact ih
      · rw [if_neg q, if_pos (by omega), if_pos (by omega)]
        by_cases w : lb a = lb b
        · have ev : mv mm lb a (b + 1) = nI b := by
            have e : pr lb a (b + 1) = b := by simp only [pr]; rw [if_pos ⟨q, w⟩]
            unfold mv
            rw [e, if_neg (fun e => q e.symm)]
          rw [if_pos w, if_pos (by omega), upd_upd]
          rw [ev] at ih
          exact ih
        · have ev : mv mm lb a (b + 1) = mv mm lb a b := by
            have e : pr lb a (b + 1) = pr lb a b := by simp only [pr]; rw [if_neg (fun v => w v.2)]
            unfold mv
            rw [e]
          rw [if_neg w, if_pos (by omega), if_pos (by omega), same]
          rw [ev] at ih
          exact ih
    · obtain rfl : b = 4 * n := by omega
      rw [if_pos (by omega)]
theorem L_mates2 {n : Nat} {ml : Nat → Int32} {lb : Nat → Nat} (hn : n ≤ 10) (hl : labs n ml lb) (hc : Cdx n lb) : ∀ (m a : Nat) (mm : Nat → Int32), a ≤ 4 * n → 4 * n < m + a → (∀ p, p < a → mm p = nI (mate n lb p)) →
    ∃ mm', L_M_findMates_2 m (nI a) (nI n) ml mm = some mm' ∧ ∀ p, p < 4 * n → mm' p = nI (mate n lb p)
  | 0, a, _, ha, hm, _ => by omega
  | m + 1, a, mm, ha, hm, h1 => by
    suffices h : ∃ mm', J_M_findMates_2 (L_M_findMates_2 m) (nI a) (nI n) ml mm = some mm' ∧ ∀ p, p < 4 * n → mm' p = nI (mate n lb p) from h
    unfold J_M_findMates_2
    simp (disch := omega) only [e4, pk_mul, le32]
    by_cases h : a < 4 * n
    · rw [if_neg (by omega)]
      have e : upd mm a (mv mm lb a 0) = mm := by
        funext j
        simp only [upd, mv, pr]
        by_cases q : j = a
        · subst q; simp
        · simp [q]
      have g := L_mates1 hn hl (L_M_findMates_2 m) h mm fu 0 (by omega) (by have : fu = 5000 := rfl; omega)
      rw [e] at g
      obtain ⟨m1, m2, m3, m4⟩ := mate_spec hc h
      have em : mate n lb a = pr lb a (4 * n) := if_pos h
      have ev : mv mm lb a (4 * n) = nI (mate n lb a) := by
        unfold mv
        rw [← em, if_neg m2]
      rw [ev] at g
      have ih := L_mates2 hn hl hc m (a + 1) (upd mm a (nI (mate n lb a))) (by omega) (by omega) (fun p hp => by
        by_cases q : p = a
        · subst q; exact pk_us
        · rw [pk_un q]; exact h1 p (by omega))
      rw [← g] at ih
      exact ih
    · obtain rfl : a = 4 * n := by omega
      rw [if_pos (by omega)]
      exact ⟨mm, rfl, h1⟩
theorem F_mates {n : Nat} {ml : Nat → Int32} {lb : Nat → Nat} (hn : n ≤ 10) (hl : labs n ml lb) (hc : Cdx n lb) (mm : Nat → Int32) : ∃ mm', F_M_findMates (nI n) ml mm = some mm' ∧ ∀ p, p < 4 * n → mm' p = nI (mate n lb p) :=
  L_mates2 hn hl hc fu 0 mm (by omega) (by have : fu = 5000 := rfl; omega) (fun p hp => by omega)
