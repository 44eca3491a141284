/-! HOW MANY WAYS ARE CLOSED when pairs of ends are joined one after another -/
def cy : (Nat → Nat) → List (Nat × Nat) → Nat
  | _, [] => 0
  | e, b :: ps => jc e b.1 b.2 + cy (jn e b.1 b.2) ps
def jl : (Nat → Nat) → List (Nat × Nat) → (Nat → Nat)
  | e, [] => e
  | e, b :: ps => jl (jn e b.1 b.2) ps
def okp : (Nat → Nat) → List (Nat × Nat) → Prop
  | _, [] => True
  | e, b :: ps => (e b.1 ≠ b.1 ∧ e b.2 ≠ b.2 ∧ b.1 ≠ b.2) ∧ okp (jn e b.1 b.2) ps
theorem cy_app : ∀ (ps qs : List (Nat × Nat)) (e : Nat → Nat), cy e (ps ++ qs) = cy e ps + cy (jl e ps) qs
  | [], qs, e => by simp [cy, jl]
  | b :: ps, qs, e => by
    show jc e b.1 b.2 + cy (jn e b.1 b.2) (ps ++ qs) = jc e b.1 b.2 + cy (jn e b.1 b.2) ps + cy (jl (jn e b.1 b.2) ps) qs
    rw [cy_app ps qs]
    omega
theorem jl_app : ∀ (ps qs : List (Nat × Nat)) (e : Nat → Nat), jl e (ps ++ qs) = jl (jl e ps) qs
  | [], qs, e => rfl
  | b :: ps, qs, e => jl_app ps qs _
theorem okp_app : ∀ (ps qs : List (Nat × Nat)) (e : Nat → Nat), okp e (ps ++ qs) ↔ okp e ps ∧ okp (jl e ps) qs
  | [], qs, e => by simp [okp, jl]
  | b :: ps, qs, e => by
    show _ ∧ okp _ (ps ++ qs) ↔ (_ ∧ okp _ ps) ∧ okp (jl (jn e b.1 b.2) ps) qs
    rw [okp_app ps qs]
    exact and_assoc.symm
theorem okp_swap {e : Nat → Nat} {a b : Nat × Nat} {ps : List (Nat × Nat)} (h : inv e) (ho : okp e (a :: b :: ps)) : okp e (b :: a :: ps) ∧ cy e (a :: b :: ps) = cy e (b :: a :: ps) := by
  obtain ⟨⟨a1, a2, a3⟩, ⟨b1, b2, b3⟩, ho⟩ := ho
  obtain ⟨c1, c2, c3⟩ := (jn_live h a1 a2 a3).mp b1
  obtain ⟨d1, d2, d3⟩ := (jn_live h a1 a2 a3).mp b2
  have e1 := jn_comm h a1 a2 c1 d1 a3 (Ne.symm c2) (Ne.symm d2) (Ne.symm c3) (Ne.symm d3) b3
  have e2 := jc_comm h a1 a2 c1 d1 a3 (Ne.symm c2) (Ne.symm d2) (Ne.symm c3) (Ne.symm d3) b3
  refine ⟨⟨⟨c1, d1, b3⟩, ⟨(jn_live h c1 d1 b3).mpr ⟨a1, Ne.symm c2, Ne.symm d2⟩, (jn_live h c1 d1 b3).mpr ⟨a2, Ne.symm c3, Ne.symm d3⟩, a3⟩, ?_⟩, ?_⟩
  · rw [← e1]; exact ho
  · simp only [cy]
    rw [e1]
    omega
theorem okp_perm {ps qs : List (Nat × Nat)} (hp : ps.Perm qs) : ∀ {e : Nat → Nat}, inv e → okp e ps → okp e qs ∧ cy e ps = cy e qs := by
  induction hp with
  | nil => exact fun _ _ => ⟨trivial, rfl⟩
  | cons b hp ih =>
    intro e h ho
    obtain ⟨h1, h2⟩ := ih (jn_inv h ho.1.1 ho.1.2.1 ho.1.2.2) ho.2
    exact ⟨⟨ho.1, h1⟩, by simp only [cy]; rw [h2]⟩
  | swap a b ps =>
    intro e h ho
    exact okp_swap h ho
  | trans h1 h2 ih1 ih2 =>
    intro e h ho
    obtain ⟨g1, g2⟩ := ih1 h ho
    obtain ⟨k1, k2⟩ := ih2 h g1
    exact ⟨k1, g2.trans k2⟩
theorem jn_flip {e : Nat → Nat} {p q : Nat} (h : inv e) : jn e p q = jn e q p ∧ jc e p q = jc e q p := by
  have i1 := h p
  have i2 := h q
  constructor
  · funext x
    rw [jn_eq, jn_eq]
    grind
  · unfold jc
    grind
/-- all ends of the pairs -/
def ends (ps : List (Nat × Nat)) : List Nat := ps.flatMap (fun b => [b.1, b.2])
theorem okp_of {ps : List (Nat × Nat)} : ∀ {e : Nat → Nat}, inv e → (∀ x ∈ ends ps, e x ≠ x) → (ends ps).Nodup → okp e ps := by
  induction ps with
  | nil => exact fun _ _ _ => trivial
  | cons b ps ih =>
    intro e h hl hn
    have he : ends (b :: ps) = b.1 :: b.2 :: ends ps := rfl
    rw [he] at hl hn
    obtain ⟨n1, n2⟩ := List.nodup_cons.mp hn
    obtain ⟨n3, n4⟩ := List.nodup_cons.mp n2
    have l1 := hl b.1 (by simp)
    have l2 := hl b.2 (by simp)
    have l3 : b.1 ≠ b.2 := fun q => n1 (by rw [q]; simp)
    refine ⟨⟨l1, l2, l3⟩, ih (jn_inv h l1 l2 l3) (fun x hx => (jn_live h l1 l2 l3).mpr ⟨hl x (by simp [hx]), fun q => n1 (by rw [← q]; simp [hx]), fun q => n3 (by rw [← q]; exact hx)⟩) n4⟩
theorem jl_inv : ∀ {ps : List (Nat × Nat)} {e : Nat → Nat}, inv e → okp e ps → inv (jl e ps)
  | [], _, h, _ => h
  | b :: ps, e, h, ho => by
    show inv (jl (jn e b.1 b.2) ps)
    exact jl_inv (jn_inv h ho.1.1 ho.1.2.1 ho.1.2.2) ho.2
theorem jl_live : ∀ {ps : List (Nat × Nat)} {e : Nat → Nat} {x : Nat}, inv e → okp e ps → (jl e ps x ≠ x ↔ e x ≠ x ∧ x ∉ ends ps)
  | [], e, x, _, _ => by simp [jl, ends]
  | b :: ps, e, x, h, ho => by
    have he : ends (b :: ps) = b.1 :: b.2 :: ends ps := rfl
    show jl (jn e b.1 b.2) ps x ≠ x ↔ _
    rw [jl_live (jn_inv h ho.1.1 ho.1.2.1 ho.1.2.2) ho.2, jn_live h ho.1.1 ho.1.2.1 ho.1.2.2, he]
    simp only [List.mem_cons, not_or]
    constructor
    · rintro ⟨⟨a, b, c⟩, d⟩; exact ⟨a, b, c, d⟩
    · rintro ⟨a, b, c, d⟩; exact ⟨⟨a, b, c⟩, d⟩
/-- the two pairs that a smoothing joins: by B when w k -/
def prs (w : Nat → Bool) (k : Nat) : List (Nat × Nat) := if w k = true then [(4 * k + 1, 4 * k + 2), (4 * k + 3, 4 * k)] else [(4 * k, 4 * k + 1), (4 * k + 2, 4 * k + 3)]
theorem ends_prs {w : Nat → Bool} {k x : Nat} : x ∈ ends (prs w k) ↔ x / 4 = k := by
  unfold prs
  cases w k
  · simp [ends]; omega
  · simp [ends]; omega
theorem ends_app (ps qs : List (Nat × Nat)) : ends (ps ++ qs) = ends ps ++ ends qs := by simp [ends]
def prl (w : Nat → Bool) (ks : List Nat) : List (Nat × Nat) := ks.flatMap (prs w)
theorem prl_cons (w : Nat → Bool) (k : Nat) (ks : List Nat) : prl w (k :: ks) = prs w k ++ prl w ks := by simp [prl]
theorem ends_prl {w : Nat → Bool} {x : Nat} : ∀ {ks : List Nat}, x ∈ ends (prl w ks) ↔ x / 4 ∈ ks
  | [] => by simp [prl, ends]
  | k :: ks => by
    rw [prl_cons, ends_app, List.mem_append, ends_prs, ends_prl, List.mem_cons]
theorem ends_nd {w : Nat → Bool} : ∀ {ks : List Nat}, ks.Nodup → (ends (prl w ks)).Nodup
  | [], _ => by simp [prl, ends]
  | k :: ks, h => by
    obtain ⟨h1, h2⟩ := List.nodup_cons.mp h
    rw [prl_cons, ends_app, List.nodup_append]
    refine ⟨?_, ends_nd h2, fun a ha b hb q => ?_⟩
    · unfold prs
      cases w k
      · simp [ends]
      · simp [ends]
    · have := ends_prs.mp ha
      subst q
      exact h1 (by rw [← this]; exact ends_prl.mp hb)
theorem okp_prl {n : Nat} {lb : Nat → Nat} (hc : Cdx n lb) {w : Nat → Bool} {ks : List Nat} (hk : ∀ k ∈ ks, k < n) (hn : ks.Nodup) : okp (mate n lb) (prl w ks) :=
  okp_of (mate_inv hc) (fun x hx => (mate_live hc x).mpr (by have := hk _ (ends_prl.mp hx); omega)) (ends_nd hn)
/-- how many ways a state has that its labels and smoothings close, the crossings gone over in the order ks -/
def ways (n : Nat) (lb : Nat → Nat) (w : Nat → Bool) (ks : List Nat) : Nat := cy (mate n lb) (prl w ks)
theorem ways_perm {n : Nat} {lb : Nat → Nat} (hc : Cdx n lb) {w : Nat → Bool} {ks ks' : List Nat} (hp : ks.Perm ks') (hk : ∀ k ∈ ks, k < n) (hn : ks.Nodup) : ways n lb w ks = ways n lb w ks' :=
  (okp_perm (List.Perm.flatMap_right (prs w) hp) (mate_inv hc) (okp_prl hc hk hn)).2
theorem cy_le : ∀ (ps : List (Nat × Nat)) (e : Nat → Nat), cy e ps ≤ ps.length
  | [], _ => by simp [cy]
  | b :: ps, e => by
    have := cy_le ps (jn e b.1 b.2)
    simp only [cy, List.length_cons, jc]
    split <;> omega
theorem prs_len (w : Nat → Bool) (k : Nat) : (prs w k).length = 2 := by
  unfold prs
  split <;> rfl
theorem prl_len (w : Nat → Bool) : ∀ ks : List Nat, (prl w ks).length = 2 * ks.length
  | [] => rfl
  | k :: ks => by
    rw [prl_cons, List.length_append, prs_len, prl_len w ks, List.length_cons]
    omega
/-- the class's smoothing of a crossing, and its taking back -/
theorem F_smooth {e : Nat → Nat} {oe : Nat → Int32} {k : Nat} {w : Nat → Bool} (h : inv e) (hr : rep e oe) (ho : okp e (prs w k)) :
    ∃ oe', F_W_smooth (nI k) (if w k = true then 0 else 1) oe = some (nI (cy e (prs w k)), oe') ∧ rep (jl e (prs w k)) oe' ∧ F_W_undo (nI k) (if w k = true then 0 else 1) oe' = some oe := by
  unfold prs at ho ⊢
  unfold F_W_smooth F_W_undo
  unfold J_W_smooth_0 J_W_undo_0
  by_cases hw : w k = true
  · simp only [hw, if_true] at ho ⊢
    obtain ⟨⟨a1, a2, a3⟩, ⟨b1, b2, b3⟩, -⟩ := ho
    obtain ⟨o1, f1, r1, u1⟩ := F_join h hr a1 a2 a3
    obtain ⟨o2, f2, r2, u2⟩ := F_join (jn_inv h a1 a2 a3) r1 b1 b2 b3
    simp only [e4, e1, e2, e3, pk_mul, nI_add] at *
    refine ⟨o2, ?_, r2, ?_⟩
    · rw [f1]
      simp only [Option.bind_some]
      rw [f2]
      simp only [Option.bind_some, cy, nI_add, Nat.add_zero]
    · rw [u2]
      simp only [Option.bind_some]
      rw [u1]
      rfl
  · simp only [hw, if_false] at ho ⊢
    rw [if_neg (by decide), if_neg (by decide)]
    obtain ⟨⟨a1, a2, a3⟩, ⟨b1, b2, b3⟩, -⟩ := ho
    obtain ⟨o1, f1, r1, u1⟩ := F_join h hr a1 a2 a3
    obtain ⟨o2, f2, r2, u2⟩ := F_join (jn_inv h a1 a2 a3) r1 b1 b2 b3
    simp only [e4, e1, e2, e3, pk_mul, nI_add] at *
    refine ⟨o2, ?_, r2, ?_⟩
    · rw [f1]
      simp only [Option.bind_some]
      rw [f2]
      simp only [Option.bind_some, cy, nI_add, Nat.add_zero]
    · rw [u2]
      simp only [Option.bind_some]
      rw [u1]
      rfl
