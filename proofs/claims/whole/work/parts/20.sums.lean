/-! SUMS OVER ALL STATES, in any order of the crossings, and by masks -/
def wu (w : Nat → Bool) (k : Nat) (b : Bool) : Nat → Bool := fun j => if j = k then b else w j
def SW : List Nat → ((Nat → Bool) → Int64) → (Nat → Bool) → Int64
  | [], F, w => F w
  | k :: ks, F, w => SW ks F (wu w k false) + SW ks F (wu w k true)
theorem SW_ext {F F' : (Nat → Bool) → Int64} : ∀ (ks : List Nat) (w : Nat → Bool), (∀ w', (∀ j, j ∉ ks → w' j = w j) → F w' = F' w') → SW ks F w = SW ks F' w
  | [], w, h => h w (fun _ _ => rfl)
  | k :: ks, w, h => by
    simp only [SW]
    rw [SW_ext ks (wu w k false) (fun w' hw => h w' (fun j hj => by
      simp only [List.mem_cons, not_or] at hj
      rw [hw j hj.2]
      simp [wu, hj.1])), SW_ext ks (wu w k true) (fun w' hw => h w' (fun j hj => by
      simp only [List.mem_cons, not_or] at hj
      rw [hw j hj.2]
      simp [wu, hj.1]))]
def cA (ks : List Nat) (w : Nat → Bool) : Nat := (ks.filter (fun k => !w k)).length
theorem cA_cons (k : Nat) (ks : List Nat) (w : Nat → Bool) : cA (k :: ks) w = cA ks w + (if w k = true then 0 else 1) := by
  unfold cA
  cases h : w k <;> simp [h]
theorem prs_ext {w w' : Nat → Bool} {k : Nat} (h : w k = w' k) : prs w k = prs w' k := by
  unfold prs
  rw [h]
theorem SA_SW (G : Nat → Nat → Int64) : ∀ (ks : List Nat) (e : Nat → Nat) (a f : Nat) (w : Nat → Bool), ks.Nodup → SA G ks e a f = SW ks (fun w => G (a + cA ks w) (f + cy e (prl w ks))) w
  | [], e, a, f, w, _ => by simp [SA, SW, cA, prl, cy]
  | k :: ks, e, a, f, w, h => by
    obtain ⟨h1, h2⟩ := List.nodup_cons.mp h
    simp only [SA, SW]
    rw [SA_SW G ks (smA e k) (a + 1) (f + clA e k) (wu w k false) h2, SA_SW G ks (smB e k) a (f + clB e k) (wu w k true) h2]
    congr 1
    · refine SW_ext ks _ (fun w' hw => ?_)
      have hk : w' k = false := by rw [hw k h1]; simp [wu]
      rw [cA_cons, hk, prl_cons, prs_ext (w' := fun _ => false) hk, cy_app]
      simp only [Bool.false_eq_true, if_false]
      rw [show f + clA e k + cy (smA e k) (prl w' ks) = f + (cy e (prs (fun _ => false) k) + cy (jl e (prs (fun _ => false) k)) (prl w' ks)) from Nat.add_assoc _ _ _, show a + 1 + cA ks w' = a + (cA ks w' + 1) by omega]
    · refine SW_ext ks _ (fun w' hw => ?_)
      have hk : w' k = true := by rw [hw k h1]; simp [wu]
      rw [cA_cons, hk, prl_cons, prs_ext (w' := fun _ => true) hk, cy_app]
      simp only [if_true]
      rw [show f + clB e k + cy (smB e k) (prl w' ks) = f + (cy e (prs (fun _ => true) k) + cy (jl e (prs (fun _ => true) k)) (prl w' ks)) from Nat.add_assoc _ _ _, Nat.add_zero]
theorem wu_comm {w : Nat → Bool} {j k : Nat} {a b : Bool} (h : j ≠ k) : wu (wu w j a) k b = wu (wu w k b) j a := by
  funext x
  simp only [wu]
  by_cases q : x = k
  · rw [if_pos q, if_neg (by omega), if_pos q]
  · rw [if_neg q, if_neg q]
theorem SW_perm {F : (Nat → Bool) → Int64} {ks ks' : List Nat} (hp : ks.Perm ks') : ks.Nodup → ∀ w, SW ks F w = SW ks' F w := by
  induction hp with
  | nil => exact fun _ _ => rfl
  | cons k hp ih =>
    intro h w
    simp only [SW]
    rw [ih (List.nodup_cons.mp h).2, ih (List.nodup_cons.mp h).2]
  | swap a b ks =>
    intro h w
    have hne : b ≠ a := fun q => (List.nodup_cons.mp h).1 (by rw [q]; simp)
    simp only [SW]
    rw [wu_comm (a := false) (b := false) hne, wu_comm (a := false) (b := true) hne, wu_comm (a := true) (b := false) hne, wu_comm (a := true) (b := true) hne]
    grind
  | trans h1 h2 ih1 ih2 =>
    intro h w
    rw [ih1 h, ih2 (h1.nodup_iff.mp h)]
/-- the polynomial of a code, at the exponent x -/
def Pf (n z : Nat) (lb : Nat → Nat) (x : Int) : Int64 := SA (Gx n x) (List.range n) (mate n lb) 0 z
theorem SA_any {n z : Nat} {lb : Nat → Nat} (hc : Cdx n lb) {ks : List Nat} (hp : ks.Perm (List.range n)) (x : Int) : SA (Gx n x) ks (mate n lb) 0 z = Pf n z lb x := by
  have hn : ks.Nodup := hp.nodup_iff.mpr List.nodup_range
  unfold Pf
  rw [SA_SW _ ks _ 0 z (fun _ => false) hn, SA_SW _ (List.range n) _ 0 z (fun _ => false) List.nodup_range, SW_perm hp hn]
  refine SW_ext _ _ (fun w _ => ?_)
  have e1 : cA ks w = cA (List.range n) w := (hp.filter _).length_eq
  have e2 : cy (mate n lb) (prl w ks) = cy (mate n lb) (prl w (List.range n)) := ways_perm hc hp (fun k hk => List.mem_range.mp (hp.mem_iff.mp hk)) hn
  rw [e1, e2]
def dr : Nat → List Nat
  | 0 => []
  | n + 1 => n :: dr n
theorem dr_perm : ∀ n, (List.range n).Perm (dr n)
  | 0 => List.Perm.nil
  | n + 1 => by
    rw [List.range_succ]
    exact (List.perm_append_singleton n (List.range n)).trans ((dr_perm n).cons n)
def mk (n : Nat) (w : Nat → Bool) (m : Nat) : Nat → Bool := fun k => if k < n then m.testBit k else w k
theorem sm_split {f : Nat → Int64} (a : Nat) : ∀ (b : Nat), sm f (a + b) = sm f a + sm (fun i => f (a + i)) b
  | 0 => by simp [sm]
  | b + 1 => by
    rw [← Nat.add_assoc]
    simp only [sm]
    rw [sm_split a b]
    grind
theorem SW_mask (F : (Nat → Bool) → Int64) : ∀ (n : Nat) (w : Nat → Bool), SW (dr n) F w = sm (fun m => F (mk n w m)) (2 ^ n)
  | 0, w => by
    simp only [dr, SW, sm, Nat.pow_zero]
    rw [Int64.zero_add]
    congr 1
  | n + 1, w => by
    simp only [dr, SW]
    rw [SW_mask F n, SW_mask F n, Nat.pow_succ, Nat.mul_two, sm_split]
    congr 1
    · refine sm_ext (fun m hm => ?_)
      congr 1
      funext k
      simp only [mk, wu]
      by_cases h1 : k < n
      · rw [if_pos h1, if_pos (by omega)]
      · rw [if_neg h1]
        by_cases h2 : k = n
        · subst h2
          rw [if_pos rfl, if_pos (by omega), Nat.testBit_lt_two_pow hm]
        · rw [if_neg h2, if_neg (by omega)]
    · refine sm_ext (fun m hm => ?_)
      congr 1
      funext k
      simp only [mk, wu]
      by_cases h1 : k < n
      · rw [if_pos h1, if_pos (by omega), Nat.testBit_two_pow_add_gt h1]
      · rw [if_neg h1]
        by_cases h2 : k = n
        · subst h2
          rw [if_pos rfl, if_pos (by omega), Nat.testBit_two_pow_add_eq, Nat.testBit_lt_two_pow hm]
          rfl
        · rw [if_neg h2, if_neg (by omega)]
/-- bits of a mask below k -/
def bsum (m : Nat) : Nat → Nat
  | 0 => 0
  | k + 1 => bsum m k + (if m.testBit k = true then 1 else 0)
theorem bsum_le (m : Nat) : ∀ k, bsum m k ≤ k
  | 0 => Nat.le_refl _
  | k + 1 => by
    have := bsum_le m k
    simp only [bsum]
    split <;> omega
theorem bsum_top {m n : Nat} (h : m < 2 ^ n) : ∀ d, bsum m (n + d) = bsum m n
  | 0 => rfl
  | d + 1 => by
    rw [← Nat.add_assoc]
    simp only [bsum]
    rw [bsum_top h d, Nat.testBit_lt_two_pow (Nat.lt_of_lt_of_le h (Nat.pow_le_pow_right (by decide) (by omega)))]
    rfl
theorem cA_bits (m : Nat) (w : Nat → Bool) : ∀ n, (∀ k, k < n → w k = m.testBit k) → cA (List.range n) w + bsum m n = n
  | 0, _ => rfl
  | n + 1, h => by
    have ih := cA_bits m w n (fun k hk => h k (by omega))
    have hn := h n (by omega)
    unfold cA at ih ⊢
    rw [List.range_succ, List.filter_append, List.length_append]
    simp only [bsum]
    rw [← hn]
    cases hw : w n
    · simp [hw]; omega
    · simp [hw]; omega
theorem Pf_mask {n z : Nat} (lb : Nat → Nat) (x : Int) : Pf n z lb x = sm (fun m => Gx n x (n - bsum m n) (z + ways n lb (fun j => m.testBit j) (List.range n))) (2 ^ n) := by
  unfold Pf
  rw [SA_SW _ _ _ _ _ (fun _ => false) List.nodup_range, SW_perm (dr_perm n) List.nodup_range, SW_mask]
  refine sm_ext (fun m hm => ?_)
  have h1 := cA_bits m (mk n (fun _ => false) m) n (fun k hk => by simp [mk, hk])
  have h2 : prl (mk n (fun _ => false) m) (List.range n) = prl (fun j => m.testBit j) (List.range n) := by
    unfold prl
    have : ∀ ks : List Nat, (∀ k ∈ ks, k < n) → ks.flatMap (prs (mk n (fun _ => false) m)) = ks.flatMap (prs (fun j => m.testBit j)) := by
      intro ks
      induction ks with
      | nil => exact fun _ => rfl
      | cons k ks ih =>
        intro h
        rw [List.flatMap_cons, List.flatMap_cons, ih (fun j hj => h j (by simp [hj])), prs_ext (w' := fun j => m.testBit j) (by simp [mk, h k (by simp)])]
    exact this _ (fun k hk => List.mem_range.mp hk)
  show Gx n x (0 + cA (List.range n) (mk n (fun _ => false) m)) (z + cy (mate n lb) (prl (mk n (fun _ => false) m) (List.range n))) = _
  rw [h2, show 0 + cA (List.range n) (mk n (fun _ => false) m) = n - bsum m n by omega]
  rfl
/-! THE REFERENCE KNOWS -/
def Ek (k : Nat) (x : Int) : Int64 := if k % 32 = 0 then 0 else Dp (k % 32 - 1) (x - ((k / 32 : Nat) - 10 : Int))
def Qs (t : Nat → Nat) (N : Nat) (x : Int) : Int64 := sm (fun k => lN (t k) * Ek k x) N
theorem Qs_inc {t : Nat → Nat} {i : Nat} (hi : i < 672) (x : Int) : Qs (fun j => if j = i then t j + 1 else t j) 672 x = Qs t 672 x + Ek i x := by
  unfold Qs
  rw [sm_one (f := fun k => lN (t k) * Ek k x) (k := i) (c := Ek i x) (by
    show lN (if i = i then t i + 1 else t i) * Ek i x = lN (t i) * Ek i x + Ek i x
    rw [if_pos rfl, ← lN_1]
    grind) (fun j hj => by
    show lN (if j = i then t j + 1 else t j) * Ek j x = lN (t j) * Ek j x
    rw [if_neg hj]) 672, if_pos hi]
theorem L_bits {m : Nat} (hm : m < 1024) : ∀ (f k : Nat), k ≤ 10 → 10 < f + k → L_M_bits_4 f (nI m) (nI (bsum m k)) (nI k) = some (nI (bsum m 10))
  | 0, k, hk, hf => by omega
  | f + 1, k, hk, hf => by
    show J_M_bits_4 (L_M_bits_4 f) (nI m) (nI (bsum m k)) (nI k) = _
    unfold J_M_bits_4
    rw [bit32 (by omega) (by omega), bitT]
    simp (disch := omega) only [e10, le32, nI_1, nI_add]
    by_cases q : k < 10
    · rw [if_neg (by omega)]
      exact L_bits hm f (k + 1) (by omega) (by omega)
    · obtain rfl : k = 10 := by omega
      rw [if_pos (by omega)]
theorem F_bits {m n : Nat} (hn : n ≤ 10) (hm : m < 2 ^ n) : F_M_bits (nI m) = some (nI (bsum m n)) := by
  have h1 : m < 1024 := Nat.lt_of_lt_of_le hm (Nat.pow_le_pow_right (by decide) hn)
  have := L_bits h1 fu 0 (by omega) (by decide)
  rw [show 10 = n + (10 - n) by omega, bsum_top hm] at this
  exact this
