/-! MATCHINGS: ends joined two by two; what is used up stands for itself. -/
def mu (e : Nat → Nat) (k x : Nat) : Nat → Nat := fun j => if j = k then x else e j
theorem mu_s (e : Nat → Nat) (k x : Nat) : mu e k x k = x := by simp [mu]
theorem mu_n {e : Nat → Nat} {k x j : Nat} (h : j ≠ k) : mu e k x j = e j := by simp [mu, h]
/-- p and q are joined: the way from one far end to the other; both are used up -/
def jn (e : Nat → Nat) (p q : Nat) : Nat → Nat := fun x => if x = p then p else if x = q then q else if x = e p then e q else if x = e q then e p else e x
/-- whether a way is closed by it -/
def jc (e : Nat → Nat) (p q : Nat) : Nat := if e p = q then 1 else 0
def inv (e : Nat → Nat) : Prop := ∀ x, e (e x) = x
theorem jn_inv {e : Nat → Nat} {p q : Nat} (h : inv e) (hp : e p ≠ p) (hq : e q ≠ q) (hpq : p ≠ q) : inv (jn e p q) := by
  intro x
  have h1 := h p
  have h2 := h q
  have h3 := h x
  unfold jn
  grind
theorem jn_eq (e : Nat → Nat) (p q x : Nat) : jn e p q x = if x = p then p else if x = q then q else if x = e p then e q else if x = e q then e p else e x := rfl
theorem jn_comm {e : Nat → Nat} {p q r s : Nat} (h : inv e) (hp : e p ≠ p) (hq : e q ≠ q) (hr : e r ≠ r) (hs : e s ≠ s) (h1 : p ≠ q) (h2 : p ≠ r) (h3 : p ≠ s) (h4 : q ≠ r) (h5 : q ≠ s) (h6 : r ≠ s) : jn (jn e p q) r s = jn (jn e r s) p q := by
  funext x
  have i1 := h p
  have i2 := h q
  have i3 := h r
  have i4 := h s
  have i5 := h x
  rw [jn_eq (jn e p q) r s x, jn_eq (jn e r s) p q x]
  have a1 := jn_eq e p q r
  have a2 := jn_eq e p q s
  have a3 := jn_eq e p q x
  have b1 := jn_eq e r s p
  have b2 := jn_eq e r s q
  have b3 := jn_eq e r s x
  rw [if_neg (Ne.symm h2), if_neg (Ne.symm h4)] at a1
  rw [if_neg (Ne.symm h3), if_neg (Ne.symm h5)] at a2
  rw [if_neg h2, if_neg h3] at b1
  rw [if_neg h4, if_neg h5] at b2
  generalize jn e p q r = fr at *
  generalize jn e p q s = fs at *
  generalize jn e p q x = fx at *
  generalize jn e r s p = gp at *
  generalize jn e r s q = gq at *
  generalize jn e r s x = gx at *
  by_cases xp : x = p
  · subst xp; simp only [if_true] at a3 ⊢; grind
  by_cases xq : x = q
  · subst xq; simp only [if_true] at a3 ⊢; grind
  by_cases xr : x = r
  · subst xr; simp only [if_true] at b3 ⊢; grind
  by_cases xs : x = s
  · subst xs; simp only [if_true] at b3 ⊢; grind
  rw [if_neg xp, if_neg xq] at a3
  rw [if_neg xr, if_neg xs] at b3
  rw [if_neg xr, if_neg xs, if_neg xp, if_neg xq]
  grind (splits := 24)
theorem jc_comm {e : Nat → Nat} {p q r s : Nat} (h : inv e) (hp : e p ≠ p) (hq : e q ≠ q) (hr : e r ≠ r) (hs : e s ≠ s) (h1 : p ≠ q) (h2 : p ≠ r) (h3 : p ≠ s) (h4 : q ≠ r) (h5 : q ≠ s) (h6 : r ≠ s) : jc e p q + jc (jn e p q) r s = jc e r s + jc (jn e r s) p q := by
  have i1 := h p
  have i2 := h q
  have i3 := h r
  have i4 := h s
  unfold jc jn
  grind
theorem jn_live {e : Nat → Nat} {p q x : Nat} (h : inv e) (hp : e p ≠ p) (hq : e q ≠ q) (hpq : p ≠ q) : jn e p q x ≠ x ↔ e x ≠ x ∧ x ≠ p ∧ x ≠ q := by
  have i1 := h p
  have i2 := h q
  have i3 := h x
  unfold jn
  grind
/-- a row of ints holds a matching, as far as its ends are still open -/
def rep (e : Nat → Nat) (oe : Nat → Int32) : Prop := ∀ x, e x ≠ x → x < 40 ∧ oe x = nI (e x)
theorem F_join {e : Nat → Nat} {oe : Nat → Int32} {p q : Nat} (h : inv e) (hr : rep e oe) (hp : e p ≠ p) (hq : e q ≠ q) (hpq : p ≠ q) :
    ∃ oe', F_W_join (nI p) (nI q) oe = some (nI (jc e p q), oe') ∧ rep (jn e p q) oe' ∧ F_W_part (nI p) (nI q) oe' = some oe := by
  obtain ⟨p1, p2⟩ := hr p hp
  obtain ⟨q1, q2⟩ := hr q hq
  have hep : e (e p) ≠ e p := by rw [h p]; exact fun w => hp w.symm
  have heq : e (e q) ≠ e q := by rw [h q]; exact fun w => hq w.symm
  obtain ⟨r1, r2⟩ := hr (e p) hep
  obtain ⟨s1, s2⟩ := hr (e q) heq
  rw [h p] at r2
  rw [h q] at s2
  unfold F_W_join F_W_part
  unfold J_W_join_0 J_W_part_0
  simp (disch := omega) only [in32, cl32]
  rw [if_pos p1, p2, q2]
  simp (disch := omega) only [in32, cl32, eq32]
  by_cases c : e p = q
  · have c2 : e q = p := by rw [← c, h p]
    refine ⟨oe, ?_, fun x hx => ?_, ?_⟩
    · rw [if_pos c]
      simp only [jc, c, if_true]
      rfl
    · have hx2 := (jn_live h hp hq hpq).mp hx
      obtain ⟨x1, x2⟩ := hr x hx2.1
      refine ⟨x1, ?_⟩
      rw [x2]
      unfold jn
      rw [if_neg hx2.2.1, if_neg hx2.2.2, if_neg (by rw [c]; exact hx2.2.2), if_neg (by rw [c2]; exact hx2.2.1)]
    · rw [if_pos p1, p2]
      simp (disch := omega) only [in32, cl32]
      have e1 : upd oe (e p) (nI p) = oe := by
        funext j
        simp only [upd]
        by_cases w : j = e p
        · subst w; rw [if_pos rfl, r2]
        · rw [if_neg w]
      rw [e1, q2]
      simp (disch := omega) only [in32, cl32]
      rw [if_pos r1, if_pos q1, if_pos s1]
      congr 1
      funext j
      simp only [upd]
      by_cases w : j = e q
      · subst w; rw [if_pos rfl, s2]
      · rw [if_neg w]
  · have c2 : e q ≠ p := fun w => c (by rw [← w, h q])
    have c3 : e p ≠ e q := fun w => hpq (by rw [← h p, w, h q])
    refine ⟨upd (upd oe (e p) (nI (e q))) (e q) (nI (e p)), ?_, fun x hx => ?_, ?_⟩
    · rw [if_neg c, if_pos p1, if_pos q1, if_pos r1, if_pos s1]
      simp only [jc, c, if_false]
      rfl
    · have hx2 := (jn_live h hp hq hpq).mp hx
      obtain ⟨x1, x2⟩ := hr x hx2.1
      refine ⟨x1, ?_⟩
      unfold jn
      rw [if_neg hx2.2.1, if_neg hx2.2.2]
      simp only [upd]
      by_cases w : x = e q
      · rw [if_pos w, if_neg (fun v => c3 (by rw [← v, w])), if_pos w]
      · rw [if_neg w]
        by_cases w2 : x = e p
        · rw [if_pos w2, if_pos w2]
        · rw [if_neg w2, if_neg w2, if_neg w, x2]
    · have a1 : upd (upd oe (e p) (nI (e q))) (e q) (nI (e p)) p = nI (e p) := by
        simp only [upd]
        rw [if_neg (fun w => c2 w.symm), if_neg (fun w => hp w.symm), p2]
      rw [if_pos p1, a1]
      simp (disch := omega) only [in32, cl32]
      have a2 : upd (upd (upd oe (e p) (nI (e q))) (e q) (nI (e p))) (e p) (nI p) q = nI (e q) := by
        simp only [upd]
        rw [if_neg (fun w => c w.symm), if_neg (fun w => hq w.symm), if_neg (fun w => c w.symm), q2]
      rw [a2]
      simp (disch := omega) only [in32, cl32]
      rw [if_pos r1, if_pos q1, if_pos s1]
      congr 1
      funext j
      simp only [upd]
      by_cases w : j = e q
      · subst w; rw [if_pos rfl, s2]
      · rw [if_neg w]
        by_cases w2 : j = e p
        · subst w2; rw [if_pos rfl, r2]
        · rw [if_neg w2, if_neg w, if_neg w2]
