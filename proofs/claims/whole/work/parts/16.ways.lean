/-! WAYS: the class's state, and the reference's walk along the ways -/
theorem sh31 : ∀ k, k < 11 → ((nI k &&& 31).toBitVec.smod 32).toNat = k := by decide
theorem sh1 : ∀ n, n < 11 → ((1 : Int32) <<< (nI n &&& 31)) = nI (2 ^ n) := by decide
theorem bit32 {m k : Nat} (hm : m < 2147483648) (hk : k < 11) : (nI m >>> (nI k &&& 31)) &&& (1 : Int32) = nI (m / 2 ^ k % 2) := by
  rw [pk_shrN hm _ k (sh31 k hk)]
  exact pk_andN (by have := Nat.div_le_self m (2 ^ k); omega) 1 (by decide)
theorem bitT {m k : Nat} : m / 2 ^ k % 2 = (if m.testBit k = true then 1 else 0) := by
  rw [Nat.testBit_eq_decide_div_mod_eq]
  by_cases h : m / 2 ^ k % 2 = 1
  · simp [h]
  · simp [h]; omega
theorem L_state {n mask : Nat} (hn : n ≤ 10) (hm : mask < 1024) (lab sd fp : Nat → Int32) (ci : Int32) : ∀ (m r k c : Nat) (e : Nat → Nat) (oe : Nat → Int32), k + r = n → r < m → inv e → rep e oe → okp e (prl (fun j => mask.testBit j) (List.range' k r)) →
    ∃ oe', L_B_state_47 m (nI mask) (nI c) (nI k) lab (nI n) ci sd oe fp = some (nI (c + cy e (prl (fun j => mask.testBit j) (List.range' k r))), sd, oe', fp)
  | 0, r, k, c, e, oe, hk, hm2, _, _, _ => by omega
  | m + 1, 0, k, c, e, oe, hk, hm2, h1, h2, h3 => by
    refine ⟨oe, ?_⟩
    show J_B_state_47 (L_B_state_47 m) (nI mask) (nI c) (nI k) lab (nI n) ci sd oe fp = _
    unfold J_B_state_47
    simp (disch := omega) only [le32]
    rw [if_pos (by omega)]
    simp [prl, cy]
  | m + 1, r + 1, k, c, e, oe, hk, hm2, h1, h2, h3 => by
    rw [List.range'_succ, prl_cons] at h3
    rw [List.range'_succ, prl_cons, cy_app]
    obtain ⟨h4, h5⟩ := (okp_app _ _ _).mp h3
    obtain ⟨o1, f1, r1, u1⟩ := F_smooth h1 h2 h4
    obtain ⟨o2, ih⟩ := L_state hn hm lab sd fp ci m r (k + 1) (c + cy e (prs (fun j => mask.testBit j) k)) _ o1 (by omega) (by omega) (jl_inv h1 h4) r1 h5
    refine ⟨o2, ?_⟩
    show J_B_state_47 (L_B_state_47 m) (nI mask) (nI c) (nI k) lab (nI n) ci sd oe fp = _
    unfold J_B_state_47 J_B_state_68
    rw [bit32 (by omega) (by omega), bitT]
    simp (disch := omega) only [le32]
    rw [if_neg (by omega)]
    by_cases q : mask.testBit k = true
    · simp only [q, if_true] at f1 ⊢
      rw [if_neg (by decide)]
      rw [f1]
      simp only [Option.bind_some, nI_add, nI_1]
      rw [ih, Nat.add_assoc]
    · simp only [q] at f1 ⊢
      rw [if_pos (by decide)]
      simp only [Bool.false_eq_true, if_false] at f1
      rw [f1]
      simp only [Option.bind_some, nI_add, nI_1]
      rw [ih, Nat.add_assoc]
/-- the other end of a smoothing's joint -/
def sj (w : Nat → Bool) (p : Nat) : Nat := if w (p / 4) = true then p - p % 4 + (3 - p % 4) else if p % 2 = 0 then p + 1 else p - 1
theorem joinedA : ∀ p, p < 40 → F_M_joined (nI p) (0 : Int32) = some (nI (if p % 2 = 0 then p + 1 else p - 1)) := by decide +kernel
theorem joinedB : ∀ p, p < 40 → F_M_joined (nI p) (1 : Int32) = some (nI (p - p % 4 + (3 - p % 4))) := by decide +kernel
theorem sj_prl {w : Nat → Bool} {p q : Nat} {ks : List Nat} (h : (p, q) ∈ prl w ks) : sj w p = q ∧ sj w q = p := by
  obtain ⟨k, hk, hm⟩ := List.mem_flatMap.mp h
  unfold prs at hm
  unfold sj
  by_cases hw : w k = true
  · rw [if_pos hw] at hm
    simp only [List.mem_cons, Prod.mk.injEq, List.not_mem_nil, or_false] at hm
    rcases hm with ⟨rfl, rfl⟩ | ⟨rfl, rfl⟩
    · rw [show (4 * k + 1) / 4 = k by omega, show (4 * k + 2) / 4 = k by omega, if_pos hw, if_pos hw]; omega
    · rw [show (4 * k + 3) / 4 = k by omega, show (4 * k) / 4 = k by omega, if_pos hw, if_pos hw]; omega
  · rw [if_neg hw] at hm
    simp only [List.mem_cons, Prod.mk.injEq, List.not_mem_nil, or_false] at hm
    rcases hm with ⟨rfl, rfl⟩ | ⟨rfl, rfl⟩
    · rw [show (4 * k + 1) / 4 = k by omega, show (4 * k) / 4 = k by omega, if_neg hw, if_neg hw, if_pos (by omega), if_neg (by omega)]; omega
    · rw [show (4 * k + 3) / 4 = k by omega, show (4 * k + 2) / 4 = k by omega, if_neg hw, if_neg hw, if_pos (by omega), if_neg (by omega)]; omega
/-- ps: the joints that are still to be met -/
def wI (n : Nat) (w : Nat → Bool) (ps : List (Nat × Nat)) (e : Nat → Nat) (mt : Nat → Int32) : Prop :=
  inv e ∧ okp e ps ∧ (∀ x, e x ≠ x ↔ x < 4 * n ∧ mt x = 0) ∧ (∀ p q, (p, q) ∈ ps → sj w p = q ∧ sj w q = p) ∧ ∀ x, e x ≠ x → ∃ p q, (p, q) ∈ ps ∧ (x = p ∨ x = q)
theorem wI_step {n : Nat} {w : Nat → Bool} {ps : List (Nat × Nat)} {e : Nat → Nat} {mt : Nat → Int32} {x : Nat} (h : wI n w ps e mt) (hx : e x ≠ x) : ∃ ps', ps'.length + 1 = ps.length ∧ e (sj w x) ≠ sj w x ∧ x ≠ sj w x ∧ cy e ps = jc e x (sj w x) + cy (jn e x (sj w x)) ps' ∧ wI n w ps' (jn e x (sj w x)) (upd (upd mt x 1) (sj w x) 1) := by
  obtain ⟨h1, h2, h3, h4, h5⟩ := h
  obtain ⟨p, q, hm, hxp⟩ := h5 x hx
  have hp := List.perm_cons_erase hm
  obtain ⟨o1, o2⟩ := okp_perm hp h1 h2
  obtain ⟨⟨a1, a2, a3⟩, o3⟩ := o1
  obtain ⟨s1, s2⟩ := h4 p q hm
  have hlen : (ps.erase (p, q)).length + 1 = ps.length := by rw [hp.length_eq]; rfl
  have key : e (sj w x) ≠ sj w x ∧ x ≠ sj w x ∧ jc e p q = jc e x (sj w x) ∧ jn e p q = jn e x (sj w x) ∧ ∀ y, (y = p ∨ y = q) → (y = x ∨ y = sj w x) := by
    rcases hxp with rfl | rfl
    · rw [s1]; exact ⟨a2, a3, rfl, rfl, fun y hy => hy⟩
    · rw [s2]; exact ⟨a1, Ne.symm a3, (jn_flip h1).2, (jn_flip h1).1, fun y hy => hy.symm⟩
  obtain ⟨k1, k2, k3, k4, k5⟩ := key
  refine ⟨ps.erase (p, q), hlen, k1, k2, ?_, jn_inv h1 hx k1 k2, ?_, fun y => ?_, fun a b hab => h4 a b (List.mem_of_mem_erase hab), fun y hy => ?_⟩
  · rw [o2]
    show jc e p q + cy (jn e p q) _ = _
    rw [k3, k4]
  · rw [← k4]; exact o3
  · rw [jn_live h1 hx k1 k2, h3]
    by_cases y1 : y = sj w x
    · subst y1; rw [pk_us]; constructor
      · intro ⟨_, _, q3⟩; exact absurd rfl q3
      · intro ⟨_, q2⟩; exact absurd q2 (by decide)
    · rw [pk_un y1]
      by_cases y2 : y = x
      · subst y2; rw [pk_us]; constructor
        · intro ⟨_, q2, _⟩; exact absurd rfl q2
        · intro ⟨_, q2⟩; exact absurd q2 (by decide)
      · rw [pk_un y2]; exact ⟨fun q => q.1, fun q => ⟨q, y2, y1⟩⟩
  · obtain ⟨y1, y2, y3⟩ := (jn_live h1 hx k1 k2).mp hy
    obtain ⟨a, b, hab, hyab⟩ := h5 y y1
    refine ⟨a, b, ?_, hyab⟩
    rcases List.mem_cons.mp ((hp.mem_iff).mp hab) with r | r
    · cases r
      rcases k5 y hyab with z | z
      · exact absurd z y2
      · exact absurd z y3
    · exact r
theorem L_ways62 {n mask a : Nat} {lb : Nat → Nat} {mm : Nat → Int32} (hn : n ≤ 10) (hmk : mask < 1024) (hc : Cdx n lb) (hmm : ∀ p, p < 4 * n → mm p = nI (mate n lb p)) (ha : a < 4 * n)
    (rec32 : Int32 → Int32 → Int32 → Int32 → Int32 → (Nat → Int32) → (Nat → Int32) → Option (Int32 × (Nat → Int32))) (c mn mc : Int32) : ∀ (m at_ : Nat) (ps : List (Nat × Nat)) (e : Nat → Nat) (mt : Nat → Int32), wI n (fun j => mask.testBit j) ps e mt → ps.length < m → e at_ ≠ at_ → e at_ = mate n lb a → (∀ y, e y ≠ y → y ≠ at_ → y ≠ mate n lb a → e y = mate n lb y) → (at_ = a ∨ e a = a) →
    ∃ ps' e' mt', wI n (fun j => mask.testBit j) ps' e' mt' ∧ (∀ y, e' y ≠ y → e' y = mate n lb y) ∧ ps'.length < ps.length ∧ cy e ps = 1 + cy e' ps' ∧ (∀ y, e' y ≠ y → e y ≠ y) ∧ e' a = a ∧ L_M_ways_62 rec32 m (nI mask) c (nI a) (nI at_) mn mc mm mt = rec32 (nI mask) c (nI (a + 1)) mn mc mm mt'
  | 0, at_, ps, e, mt, h, hl, _, _, _, _ => by omega
  | m + 1, at_, ps, e, mt, h, hl, h1, h2, h3, h4 => by
    obtain ⟨ps', l1, l2, l3, l4, l5⟩ := wI_step h h1
    have hlive := h.2.2.1
    have hinv := h.1
    have hat := (hlive at_).mp h1
    have hto := (hlive _).mp l2
    generalize hsx : sj (fun j => mask.testBit j) at_ = to at *
    have hml := (mate_spec hc hto.1).1
    -- one turn of the loop
    have step : L_M_ways_62 rec32 (m + 1) (nI mask) c (nI a) (nI at_) mn mc mm mt = L_M_ways_62 rec32 m (nI mask) c (nI a) (nI (mate n lb to)) mn mc mm (upd (upd mt at_ 1) to 1) := by
      show J_M_ways_62 rec32 (L_M_ways_62 rec32 m) (nI mask) c (nI a) (nI at_) mn mc mm mt = _
      unfold J_M_ways_62 J_M_ways_99
      rw [show (4 : Int32) = nI 4 from rfl, pk_div (by omega) (by omega) (by omega), bit32 (by omega) (by omega), bitT]
      simp (disch := omega) only [in32, cl32]
      rw [if_pos (by omega), hat.2, if_pos rfl, if_pos (by omega), vz1]
      have e0 : ¬ (nI (if mask.testBit (at_ / 4) = true then 1 else 0) = (1 : Int32)) ↔ ¬ mask.testBit (at_ / 4) = true := by
        by_cases q : mask.testBit (at_ / 4) = true
        · simp only [q, if_true]; decide
        · simp only [q]; decide
      unfold sj at hsx
      by_cases q : mask.testBit (at_ / 4) = true
      · rw [if_pos (Classical.not_not.mp (fun z => (e0.mp z) q)), joinedB at_ (by omega)]
        simp only [q, if_true] at hsx
        rw [hsx]
        simp only [Option.bind_some]
        simp (disch := omega) only [in32, cl32]
        rw [if_pos (by omega), if_pos (by omega), hmm to hto.1]
      · rw [if_neg (e0.mpr q), joinedA at_ (by omega)]
        simp only [q, Bool.false_eq_true, if_false] at hsx
        rw [hsx]
        simp only [Option.bind_some]
        simp (disch := omega) only [in32, cl32]
        rw [if_pos (by omega), if_pos (by omega), hmm to hto.1]
    rw [step]
    have hinv' := l5.1
    have hlive' := l5.2.2.1
    by_cases q : to = mate n lb a
    · -- the way is closed
      have ea : mate n lb to = a := by rw [q, mate_inv hc]
      have jc1 : jc e at_ to = 1 := by unfold jc; rw [if_pos (by rw [h2, q])]
      have da : jn e at_ to a = a := by
        by_cases z : jn e at_ to a = a
        · exact z
        · obtain ⟨z1, z2, z3⟩ := (jn_live hinv h1 l2 l3).mp z
          rcases h4 with z4 | z4
          · exact absurd z4.symm z2
          · exact absurd z4 z1
      refine ⟨ps', _, _, l5, fun y hy => ?_, by omega, by rw [l4, jc1], fun y hy => ((jn_live hinv h1 l2 l3).mp hy).1, da, ?_⟩
      · obtain ⟨y1, y2, y3⟩ := (jn_live hinv h1 l2 l3).mp hy
        rw [jn_eq, if_neg y2, if_neg y3, if_neg (by rw [h2, ← q]; exact y3), if_neg (by
          have : e to = at_ := by rw [q, ← h2, hinv]
          rw [this]; exact y2)]
        exact h3 y y1 y2 (by rw [← q]; exact y3)
      · rw [ea]
        have ma : ¬ (upd (upd mt at_ 1) to 1 a = 0) := fun z => by
          exact ((hlive' a).mpr ⟨ha, z⟩) da
        match m, hl with
        | 0, hl => omega
        | m + 1, hl =>
          show J_M_ways_62 rec32 (L_M_ways_62 rec32 m) (nI mask) c (nI a) (nI a) mn mc mm _ = _
          unfold J_M_ways_62
          simp (disch := omega) only [in32, cl32, nI_1]
          rw [if_pos (by omega), if_neg ma]
    · -- the way goes on
      have et : e to = mate n lb to := h3 to l2 (Ne.symm l3) q
      have jc0 : jc e at_ to = 0 := by unfold jc; rw [if_neg (by rw [h2]; exact fun z => q z.symm)]
      have n1 : mate n lb to ≠ at_ := fun z => by
        have := hinv to
        rw [et, z, h2] at this
        exact q this.symm
      have n2 : mate n lb to ≠ to := (mate_spec hc hto.1).2.1
      have n3 : mate n lb to ≠ mate n lb a := fun z => by
        have h6 : to = a := by rw [← mate_inv hc to, z, mate_inv hc]
        subst h6
        rcases h4 with z4 | z4
        · exact l3 z4
        · exact l2 z4
      have live2 : e (mate n lb to) ≠ mate n lb to := by
        rw [← et, hinv]; exact fun z => l2 z.symm
      have at2 : jn e at_ to (mate n lb to) = mate n lb a := by
        rw [jn_eq, if_neg n1, if_neg n2, if_neg (by rw [h2]; exact n3), if_pos et.symm, h2]
      obtain ⟨ps2, e2, mt2, g1, g2, g0, g3, g4, g5, g6⟩ := L_ways62 hn hmk hc hmm ha rec32 c mn mc m (mate n lb to) ps' (jn e at_ to) _ l5 (by omega) ((jn_live hinv h1 l2 l3).mpr ⟨live2, n1, n2⟩) at2 (fun y y1 y2 y3 => by
        obtain ⟨z1, z2, z3⟩ := (jn_live hinv h1 l2 l3).mp y1
        rw [jn_eq, if_neg z2, if_neg z3, if_neg (by rw [h2]; exact y3), if_neg (by rw [et]; exact y2)]
        exact h3 y z1 z2 y3) (Or.inr (by
          by_cases z : jn e at_ to a = a
          · exact z
          · obtain ⟨z1, z2, z3⟩ := (jn_live hinv h1 l2 l3).mp z
            rcases h4 with z4 | z4
            · exact absurd z4.symm z2
            · exact absurd z4 z1))
      exact ⟨ps2, e2, mt2, g1, g2, by omega, by rw [l4, jc0, g3]; omega, fun y hy => ((jn_live hinv h1 l2 l3).mp (g4 y hy)).1, g5, g6⟩
theorem L_ways32 {n mask : Nat} {lb : Nat → Nat} {mm : Nat → Int32} (hn : n ≤ 10) (hmk : mask < 1024) (hc : Cdx n lb) (hmm : ∀ p, p < 4 * n → mm p = nI (mate n lb p)) (mc : Int32) : ∀ (m a c : Nat) (ps : List (Nat × Nat)) (e : Nat → Nat) (mt : Nat → Int32), a ≤ 4 * n → 4 * n < m + a → wI n (fun j => mask.testBit j) ps e mt → (∀ y, e y ≠ y → e y = mate n lb y) → (∀ y, y < a → e y = y) → ps.length < fu →
    ∃ mt', L_M_ways_32 m (nI mask) (nI c) (nI a) (nI n) mc mm mt = some (nI (c + cy e ps), mt')
  | 0, a, c, ps, e, mt, ha, hm, _, _, _, _ => by omega
  | m + 1, a, c, ps, e, mt, ha, hm, h, h1, h2, h3 => by
    suffices g : ∃ mt', J_M_ways_32 (L_M_ways_32 m) (nI mask) (nI c) (nI a) (nI n) mc mm mt = some (nI (c + cy e ps), mt') from g
    unfold J_M_ways_32
    simp (disch := omega) only [e4, e0, pk_mul, le32, in32, cl32, nI_1, nI_add]
    by_cases q : a < 4 * n
    · rw [if_neg (by omega), if_pos (by omega)]
      by_cases z : mt a = nI 0
      · rw [if_pos z]
        have la : e a ≠ a := (h.2.2.1 a).mpr ⟨q, z⟩
        obtain ⟨ps', e', mt', g1, g2, g0, g3, g4, g5, g6⟩ := L_ways62 hn hmk hc hmm q (L_M_ways_32 m) (nI (c + 1)) (nI n) mc fu a ps e mt h h3 la (h1 a la) (fun y y1 _ _ => h1 y y1) (Or.inl rfl)
        rw [g6]
        have hps : ps'.length < fu := Nat.lt_trans g0 h3
        obtain ⟨mt2, ih⟩ := L_ways32 hn hmk hc hmm mc m (a + 1) (c + 1) ps' e' mt' (by omega) (by omega) g1 g2 (fun y hy => by
          by_cases w : y = a
          · subst w; exact g5
          · by_cases w2 : e' y = y
            · exact w2
            · exact absurd (h2 y (by omega)) (g4 y w2)) hps
        exact ⟨mt2, by rw [ih, g3]; congr 3; omega⟩
      · rw [if_neg z]
        have la : e a = a := by
          by_cases w : e a = a
          · exact w
          · exact absurd ((h.2.2.1 a).mp w).2 z
        have ex : L_M_ways_62 (L_M_ways_32 m) fu (nI mask) (nI (c + 0)) (nI a) (nI a) (nI n) mc mm mt = L_M_ways_32 m (nI mask) (nI (c + 0)) (nI (a + 1)) (nI n) mc mm mt := by
          show J_M_ways_62 (L_M_ways_32 m) (L_M_ways_62 (L_M_ways_32 m) 4999) (nI mask) (nI (c + 0)) (nI a) (nI a) (nI n) mc mm mt = _
          unfold J_M_ways_62
          simp (disch := omega) only [in32, cl32, nI_1]
          rw [if_pos (by omega), if_neg (show ¬ mt a = 0 from z)]
        rw [ex]
        exact L_ways32 hn hmk hc hmm mc m (a + 1) c ps e mt (by omega) (by omega) h h1 (fun y hy => by
          by_cases w : y = a
          · subst w; exact la
          · exact h2 y (by omega)) h3
    · obtain rfl : a = 4 * n := by omega
      rw [if_pos (by omega)]
      refine ⟨mt, ?_⟩
      match ps, h with
      | [], h => rfl
      | b :: ps, h =>
        have l := h.2.1.1.1
        exact absurd (h2 b.1 ((h.2.2.1 b.1).mp l).1) l
theorem L_ways7 {n mask : Nat} (hn : n ≤ 10) (x2 mc : Int32) (mm : Nat → Int32) : ∀ (m i : Nat) (mt : Nat → Int32), i ≤ 4 * n → 4 * n < m + i → (∀ y, y < i → mt y = 0) → ∃ mt', (∀ y, y < 4 * n → mt' y = 0) ∧ L_M_ways_7 m (nI mask) x2 (nI i) (nI n) mc mm mt = L_M_ways_32 fu (nI mask) x2 (nI 0) (nI n) mc mm mt'
  | 0, i, mt, hi, hm, _ => by omega
  | m + 1, i, mt, hi, hm, h => by
    suffices g : ∃ mt', (∀ y, y < 4 * n → mt' y = 0) ∧ J_M_ways_7 (L_M_ways_7 m) (nI mask) x2 (nI i) (nI n) mc mm mt = L_M_ways_32 fu (nI mask) x2 (nI 0) (nI n) mc mm mt' from g
    unfold J_M_ways_7
    simp (disch := omega) only [e4, vz0, pk_mul, le32, in32, cl32, nI_1]
    by_cases q : i < 4 * n
    · rw [if_neg (by omega), if_pos (by omega)]
      exact L_ways7 hn x2 mc mm m (i + 1) _ (by omega) (by omega) (fun y hy => by
        by_cases w : y = i
        · subst w; exact pk_us
        · rw [pk_un w]; exact h y (by omega))
    · obtain rfl : i = 4 * n := by omega
      rw [if_pos (by omega)]
      exact ⟨mt, h, rfl⟩
theorem F_ways {n z mask : Nat} {lb : Nat → Nat} {mm mt : Nat → Int32} (hn : n ≤ 10) (hmk : mask < 1024) (hc : Cdx n lb) (hmm : ∀ p, p < 4 * n → mm p = nI (mate n lb p)) : ∃ mt', F_M_ways (nI mask) (nI n) (nI z) mm mt = some (nI (z + ways n lb (fun j => mask.testBit j) (List.range n)), mt') := by
  obtain ⟨mt1, h1, h2⟩ := L_ways7 (mask := mask) hn (nI z) (nI z) mm fu 0 mt (by omega) (by have : fu = 5000 := rfl; omega) (fun y hy => by omega)
  have h3 : F_M_ways (nI mask) (nI n) (nI z) mm mt = L_M_ways_32 fu (nI mask) (nI z) (nI 0) (nI n) (nI z) mm mt1 := h2
  rw [h3]
  have hlen : (prl (fun j => mask.testBit j) (List.range n)).length < fu := by rw [prl_len, List.length_range]; have : fu = 5000 := rfl; omega
  refine L_ways32 hn hmk hc hmm (nI z) fu 0 z (prl (fun j => mask.testBit j) (List.range n)) (mate n lb) mt1 (by omega) (by have : fu = 5000 := rfl; omega) ⟨mate_inv hc, okp_prl hc (fun k hk => List.mem_range.mp hk) List.nodup_range, fun x => ?_, fun p q h => sj_prl h, fun x hx => ?_⟩ (fun y _ => rfl) (fun y hy => by omega) hlen
  · rw [mate_live hc]
    exact ⟨fun q => ⟨q, h1 x q⟩, fun q => q.1⟩
  · have hx2 := (mate_live hc x).mp hx
    have : x ∈ ends (prl (fun j => mask.testBit j) (List.range n)) := ends_prl.mpr (List.mem_range.mpr (by omega))
    obtain ⟨b, hb, hxb⟩ := List.mem_flatMap.mp this
    simp only [List.mem_cons, List.not_mem_nil, or_false] at hxb
    exact ⟨b.1, b.2, hb, hxb⟩
