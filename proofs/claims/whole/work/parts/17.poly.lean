/-! POLYNOMIALS: powers of d, sums -/
def sm (f : Nat → Int64) : Nat → Int64
  | 0 => 0
  | n + 1 => sm f n + f n
theorem sm_ext {f g : Nat → Int64} : ∀ {n : Nat}, (∀ i, i < n → f i = g i) → sm f n = sm g n
  | 0, _ => rfl
  | n + 1, h => by
    simp only [sm]
    rw [sm_ext (fun i hi => h i (by omega)), h n (by omega)]
theorem sm_zero : ∀ (n : Nat), sm (fun _ => 0) n = 0
  | 0 => rfl
  | n + 1 => by simp only [sm]; rw [sm_zero n]; rfl
theorem sm_add {f g : Nat → Int64} : ∀ (n : Nat), sm (fun i => f i + g i) n = sm f n + sm g n
  | 0 => by simp [sm]
  | n + 1 => by
    simp only [sm]
    rw [sm_add n]
    grind
/-- one place more -/
theorem sm_one {f g : Nat → Int64} {k : Nat} {c : Int64} (hk : g k = f k + c) (ho : ∀ i, i ≠ k → g i = f i) : ∀ (n : Nat), sm g n = sm f n + (if k < n then c else 0)
  | 0 => by simp [sm]
  | n + 1 => by
    simp only [sm]
    rw [sm_one hk ho n]
    by_cases q : n = k
    · subst q
      rw [hk, if_neg (by omega), if_pos (by omega)]
      grind
    · rw [ho n q]
      by_cases r : k < n
      · rw [if_pos r, if_pos (by omega)]; grind
      · rw [if_neg r, if_neg (by omega)]; grind
/-- d to the power of m, by its coefficients -/
def Dp : Nat → Int → Int64
  | 0, x => if x = 0 then 1 else 0
  | m + 1, x => -(Dp m (x - 2)) - Dp m (x + 2)
theorem Dp_supp : ∀ (m : Nat) (x : Int), (x < -(2 * (m : Int)) ∨ 2 * (m : Int) < x) → Dp m x = 0
  | 0, x, h => by simp only [Dp]; rw [if_neg (by omega)]
  | m + 1, x, h => by
    simp only [Dp]
    rw [Dp_supp m (x - 2) (by omega), Dp_supp m (x + 2) (by omega)]
    rfl
/-- the tally's rows, from the states with most circles down, g of them: Horner's way -/
def Hs (n : Nat) (t : Nat → Nat) : Nat → Int → Int64
  | 0, _ => 0
  | g + 1, x => (-(Hs n t g (x - 2)) - Hs n t g (x + 2)) + sm (fun a => if x = 2 * (a : Int) - n then lN (t (a * 30 + (29 - g))) else 0) (n + 1)
theorem Hs_zero (n : Nat) : ∀ (g : Nat) (x : Int), Hs n (fun _ => 0) g x = 0
  | 0, _ => rfl
  | g + 1, x => by
    simp only [Hs]
    rw [Hs_zero n g, Hs_zero n g]
    have : sm (fun a => if x = 2 * (a : Int) - n then lN 0 else 0) (n + 1) = sm (fun _ => 0) (n + 1) := sm_ext (fun i _ => by split <;> rfl)
    rw [this, sm_zero]
    rfl
theorem Hs_supp {n : Nat} (hn : n ≤ 10) (t : Nat → Nat) : ∀ (g : Nat) (x : Int), (x < -(10 + 2 * (g : Int)) ∨ 10 + 2 * (g : Int) < x) → Hs n t g x = 0
  | 0, _, _ => rfl
  | g + 1, x, h => by
    simp only [Hs]
    rw [Hs_supp hn t g (x - 2) (by omega), Hs_supp hn t g (x + 2) (by omega)]
    have : sm (fun a => if x = 2 * (a : Int) - n then lN (t (a * 30 + (29 - g))) else 0) (n + 1) = sm (fun _ => 0) (n + 1) := sm_ext (fun i hi => if_neg (by omega))
    rw [this, sm_zero]
    rfl
/-- one state more in the tally -/
theorem Hs_one {n a f : Nat} (ha : a ≤ n) (hf : f ≤ 29) {t t' : Nat → Nat} (h1 : t' (a * 30 + f) = t (a * 30 + f) + 1) (h2 : ∀ j, j ≠ a * 30 + f → t' j = t j) : ∀ (g : Nat) (x : Int), g ≤ 29 → Hs n t' g x = Hs n t g x + (if 30 ≤ f + g then Dp (f + g - 30) (x - (2 * (a : Int) - n)) else 0)
  | 0, x, hg => by simp only [Hs]; rw [if_neg (by omega)]; rfl
  | g + 1, x, hg => by
    simp only [Hs]
    rw [Hs_one ha hf h1 h2 g (x - 2) (by omega), Hs_one ha hf h1 h2 g (x + 2) (by omega)]
    rcases Nat.lt_trichotomy (f + g) 29 with q | q | q
    · rw [if_neg (by omega), if_neg (by omega), if_neg (by omega)]
      have : sm (fun i => if x = 2 * (i : Int) - n then lN (t' (i * 30 + (29 - g))) else 0) (n + 1) = sm (fun i => if x = 2 * (i : Int) - n then lN (t (i * 30 + (29 - g))) else 0) (n + 1) := sm_ext (fun i hi => by rw [h2 _ (by omega)])
      rw [this]
      grind
    · rw [if_neg (by omega), if_neg (by omega), if_pos (by omega), show f + (g + 1) - 30 = 0 by omega]
      have e := sm_one (f := fun i => if x = 2 * (i : Int) - n then lN (t (i * 30 + (29 - g))) else 0) (g := fun i => if x = 2 * (i : Int) - n then lN (t' (i * 30 + (29 - g))) else 0) (k := a) (c := if x = 2 * (a : Int) - n then 1 else 0) (by
        show (if x = 2 * (a : Int) - n then lN (t' (a * 30 + (29 - g))) else 0) = (if x = 2 * (a : Int) - n then lN (t (a * 30 + (29 - g))) else 0) + _
        rw [show 29 - g = f by omega, h1]
        by_cases w : x = 2 * (a : Int) - n
        · rw [if_pos w, if_pos w, if_pos w, ← lN_1]
        · rw [if_neg w, if_neg w, if_neg w]; rfl) (fun i hi => by
        show (if x = 2 * (i : Int) - n then lN (t' (i * 30 + (29 - g))) else 0) = _
        rw [h2 _ (by omega)]) (n + 1)
      rw [e, if_pos (by omega)]
      simp only [Dp]
      by_cases w : x = 2 * (a : Int) - n
      · rw [if_pos w, if_pos (by omega)]; grind
      · rw [if_neg w, if_neg (by omega)]; grind
    · rw [if_pos (by omega), if_pos (by omega), if_pos (by omega), show f + (g + 1) - 30 = (f + g - 30) + 1 by omega]
      have : sm (fun i => if x = 2 * (i : Int) - n then lN (t' (i * 30 + (29 - g))) else 0) (n + 1) = sm (fun i => if x = 2 * (i : Int) - n then lN (t (i * 30 + (29 - g))) else 0) (n + 1) := sm_ext (fun i hi => by rw [h2 _ (by omega)])
      rw [this]
      simp only [Dp]
      rw [show x - (2 * (a : Int) - n) - 2 = x - 2 - (2 * (a : Int) - n) by omega, show x - (2 * (a : Int) - n) + 2 = x + 2 - (2 * (a : Int) - n) by omega]
      grind
/-- what one state gives, smoothed a times by A, with f circles, at the exponent x -/
def Gx (n : Nat) (x : Int) (a f : Nat) : Int64 := if f = 0 then 0 else Dp (f - 1) (x - (2 * (a : Int) - n))
theorem Hs_inc {n a f : Nat} (ha : a ≤ n) (hf : f ≤ 29) (t : Nat → Nat) (x : Int) : Hs n (fun j => if j = a * 30 + f then t j + 1 else t j) 29 x = Hs n t 29 x + Gx n x a f := by
  rw [Hs_one ha hf (t := t) (by simp) (fun j hj => by simp [hj]) 29 x (by omega)]
  unfold Gx
  by_cases q : f = 0
  · rw [if_neg (by omega), if_pos q]
  · rw [if_pos (by omega), if_neg q, show f + 29 - 30 = f - 1 by omega]
/-- the tally of all states that go on from here -/
def smA (e : Nat → Nat) (k : Nat) : Nat → Nat := jl e (prs (fun _ => false) k)
def smB (e : Nat → Nat) (k : Nat) : Nat → Nat := jl e (prs (fun _ => true) k)
def clA (e : Nat → Nat) (k : Nat) : Nat := cy e (prs (fun _ => false) k)
def clB (e : Nat → Nat) (k : Nat) : Nat := cy e (prs (fun _ => true) k)
def tl : List Nat → (Nat → Nat) → Nat → Nat → (Nat → Nat) → (Nat → Nat)
  | [], _, a, f, t => fun j => if j = a * 30 + f then t j + 1 else t j
  | k :: ks, e, a, f, t => tl ks (smB e k) a (f + clB e k) (tl ks (smA e k) (a + 1) (f + clA e k) t)
def SA (G : Nat → Nat → Int64) : List Nat → (Nat → Nat) → Nat → Nat → Int64
  | [], _, a, f => G a f
  | k :: ks, e, a, f => SA G ks (smA e k) (a + 1) (f + clA e k) + SA G ks (smB e k) a (f + clB e k)
theorem clA_le (e : Nat → Nat) (k : Nat) : clA e k ≤ 2 := by
  have := cy_le (prs (fun _ => false) k) e
  rw [prs_len] at this
  exact this
theorem clB_le (e : Nat → Nat) (k : Nat) : clB e k ≤ 2 := by
  have := cy_le (prs (fun _ => true) k) e
  rw [prs_len] at this
  exact this
theorem Hs_tl {n : Nat} (hn : n ≤ 10) (x : Int) : ∀ (ks : List Nat) (e : Nat → Nat) (a f : Nat) (t : Nat → Nat), a + ks.length ≤ n → f + 2 * ks.length ≤ 29 → Hs n (tl ks e a f t) 29 x = Hs n t 29 x + SA (Gx n x) ks e a f
  | [], e, a, f, t, h1, h2 => by
    simp only [List.length_nil] at h1 h2
    exact Hs_inc (by omega) (by omega) t x
  | k :: ks, e, a, f, t, h1, h2 => by
    simp only [List.length_cons] at h1 h2
    have c1 := clA_le e k
    have c2 := clB_le e k
    simp only [tl, SA]
    rw [Hs_tl hn x ks _ a _ _ (by omega) (by omega), Hs_tl hn x ks _ (a + 1) _ _ (by omega) (by omega)]
    grind
theorem tl_le : ∀ (ks : List Nat) (e : Nat → Nat) (a f : Nat) (t : Nat → Nat) (j : Nat), tl ks e a f t j ≤ t j + 2 ^ ks.length
  | [], e, a, f, t, j => by
    simp only [tl]
    split <;> simp
  | k :: ks, e, a, f, t, j => by
    simp only [tl, List.length_cons]
    have h1 := tl_le ks (smB e k) a (f + clB e k) (tl ks (smA e k) (a + 1) (f + clA e k) t) j
    have h2 := tl_le ks (smA e k) (a + 1) (f + clA e k) t j
    rw [Nat.pow_succ]
    omega
def ordL (od : Nat → Int32) : Nat → List Nat → Prop
  | _, [] => True
  | s, k :: ks => od s = nI k ∧ ordL od (s + 1) ks
theorem F_tally {n : Nat} (hn : n ≤ 10) (od : Nat → Int32) : ∀ (ks : List Nat) (d step a f : Nat) (e : Nat → Nat) (oe : Nat → Int32) (t : Nat → Nat), step + ks.length = n → ks.length < d → a ≤ step → f ≤ 9 + 2 * step → ordL od step ks → inv e → rep e oe → ks.Nodup → (∀ x, x / 4 ∈ ks → e x ≠ x) →
    F_B_tallyFrom d (nI step) (nI a) (nI f) (nI n) od (fun j => nI (t j)) oe = some (fun j => nI (tl ks e a f t j), oe)
  | ks, 0, step, a, f, e, oe, t, h1, h2, _, _, _, _, _, _, _ => by omega
  | [], d + 1, step, a, f, e, oe, t, h1, h2, h3, h4, h5, h6, h7, h8, h9 => by
    simp only [List.length_nil, Nat.add_zero] at h1
    show J_B_tallyFrom_0 (F_B_tallyFrom d) (nI step) (nI a) (nI f) (nI n) od (fun j => nI (t j)) oe = _
    unfold J_B_tallyFrom_0
    simp (disch := omega) only [lt32, e30, e1, pk_mul, nI_add, in32, cl32]
    rw [if_neg (by omega), if_pos (by omega), if_pos (by omega)]
    congr 2
    funext j
    simp only [upd, tl]
    by_cases q : j = a * 30 + f
    · rw [if_pos q, if_pos q, q]
    · rw [if_neg q, if_neg q]
  | k :: ks, d + 1, step, a, f, e, oe, t, h1, h2, h3, h4, h5, h6, h7, h8, h9 => by
    simp only [List.length_cons] at h1 h2
    obtain ⟨o1, o2⟩ := h5
    obtain ⟨n1, n2⟩ := List.nodup_cons.mp h8
    have hok : ∀ w : Nat → Bool, okp e (prs w k) := fun w => okp_of h6 (fun x hx => h9 x (by rw [ends_prs.mp hx]; simp)) (by
      have := ends_nd (w := w) (ks := [k]) (by simp)
      rw [prl_cons] at this
      simpa [prl] using this)
    have hlv : ∀ w : Nat → Bool, ∀ x, x / 4 ∈ ks → jl e (prs w k) x ≠ x := fun w x hx => (jl_live h6 (hok w)).mpr ⟨h9 x (by simp [hx]), fun q => n1 (by rw [← ends_prs.mp q]; exact hx)⟩
    obtain ⟨oA, fA, rA, uA⟩ := F_smooth (w := fun _ => false) h6 h7 (hok _)
    obtain ⟨oB, fB, rB, uB⟩ := F_smooth (w := fun _ => true) h6 h7 (hok _)
    simp only [Bool.false_eq_true, if_false, if_true] at fA uA fB uB
    have c1 := clA_le e k
    have c2 := clB_le e k
    have ihA := F_tally hn od ks d (step + 1) (a + 1) (f + clA e k) (smA e k) oA t (by omega) (by omega) (by omega) (by omega) o2 (jl_inv h6 (hok _)) rA n2 (hlv _)
    have ihB := F_tally hn od ks d (step + 1) a (f + clB e k) (smB e k) oB (tl ks (smA e k) (a + 1) (f + clA e k) t) (by omega) (by omega) (by omega) (by omega) o2 (jl_inv h6 (hok _)) rB n2 (hlv _)
    show J_B_tallyFrom_0 (F_B_tallyFrom d) (nI step) (nI a) (nI f) (nI n) od (fun j => nI (t j)) oe = _
    unfold J_B_tallyFrom_0
    simp (disch := omega) only [lt32, in32, cl32]
    rw [if_pos (by omega), if_pos (by omega), o1, fA]
    simp only [Option.bind_some, nI_1, nI_add]
    rw [show f + cy e (prs (fun _ => false) k) = f + clA e k from rfl, ihA]
    simp only [Option.bind_some]
    rw [uA]
    simp only [Option.bind_some]
    rw [fB]
    simp only [Option.bind_some, nI_1, nI_add]
    rw [show f + cy e (prs (fun _ => true) k) = f + clB e k from rfl, ihB]
    simp only [Option.bind_some]
    rw [uB]
    rfl
