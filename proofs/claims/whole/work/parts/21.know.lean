/-! THE REFERENCE'S know -/
theorem L_know143 {t : Nat → Nat} (ht : ∀ j, t j ≤ 1024) (h32 : ∀ j, t j ≠ 0 → j % 32 ≤ 29) {my : Nat → Int32} (hy : ∀ j, j < 672 → my j = nI (t j)) (mn mc : Int32) (ml mm mt : Nat → Int32) (mk : Int32) : ∀ (m k : Nat) (mr mb : Nat → Int64), k ≤ 672 → 672 < m + k → repM (Qs t k) mr →
    ∃ mr' mb', L_M_know_143 m (nI k) mn mc ml mm mt mk mr my mb = some (mm, mt, mk, mr', my, mb') ∧ repM (Qs t 672) mr'
  | 0, k, mr, mb, h1, h2, _ => by omega
  | m + 1, k, mr, mb, h1, h2, h3 => by
    suffices g : ∃ mr' mb', J_M_know_143 (L_M_know_143 m) (nI k) mn mc ml mm mt mk mr my mb = some (mm, mt, mk, mr', my, mb') ∧ repM (Qs t 672) mr' from g
    unfold J_M_know_143
    rw [show (nI k - nI k / (32 : Int32) * (32 : Int32)) = nI (k % 32) from pk_rem (a := k) (d := 32) (by omega) (by decide) (by decide), show nI k / (32 : Int32) = nI (k / 32) from pk_div (a := k) (d := 32) (by omega) (by decide) (by decide)]
    simp (disch := omega) only [e672, e0, le32, in32, cl32, nI_1]
    by_cases q : k < 672
    · have hk := ht k
      rw [if_neg (by omega), if_pos q, hy k q]
      simp (disch := omega) only [le32]
      by_cases w : t k ≤ 0
      · rw [if_pos w]
        refine L_know143 ht h32 hy mn mc ml mm mt mk m (k + 1) mr mb (by omega) (by omega) (fun j hj => ?_)
        rw [h3 j hj]
        show _ = sm _ k + lN (t k) * _
        rw [show t k = 0 by omega, show lN 0 = 0 from rfl, Int64.zero_mul, Int64.add_zero]
        rfl
      · rw [if_neg w, if_pos q]
        have h32' := h32 k (by omega)
        have epw : nI (k / 32) - (10 : Int32) = iI (((k / 32 : Nat) : Int) - 10) := by rw [nI_iI, show (10 : Int32) = iI 10 from rfl, iI_sub]
        rw [epw]
        by_cases z : k % 32 = 0
        · rw [z, show nI 0 - (1 : Int32) = -1 from rfl]
          obtain ⟨mb1, f1⟩ := F_expand0 (nI (t k)) (iI (((k / 32 : Nat) : Int) - 10)) mr mb
          rw [f1]
          simp only [Option.bind_some]
          refine L_know143 ht h32 hy mn mc ml mm mt mk m (k + 1) mr mb1 (by omega) (by omega) (fun j hj => ?_)
          rw [h3 j hj]
          show _ = sm _ k + lN (t k) * Ek k _
          rw [show Ek k ((j : Int) - 128) = 0 from if_pos z, Int64.mul_zero, Int64.add_zero]
          rfl
        · rw [show nI (k % 32) - (1 : Int32) = nI (k % 32 - 1) from s32 (a := k % 32) (b := 1) (by omega)]
          obtain ⟨mr1, mb1, f1, r1⟩ := F_expand (c := t k) (M := k % 32 - 1) (pw := ((k / 32 : Nat) : Int) - 10) (by omega) (by omega) (by omega) (by omega) h3 mb
          rw [f1]
          simp only [Option.bind_some]
          refine L_know143 ht h32 hy mn mc ml mm mt mk m (k + 1) mr1 mb1 (by omega) (by omega) (fun j hj => ?_)
          rw [r1 j hj]
          show _ = sm _ k + lN (t k) * Ek k _
          rw [show Ek k ((j : Int) - 128) = Dp (k % 32 - 1) ((j : Int) - 128 - (((k / 32 : Nat) : Int) - 10)) from if_neg z]
          rfl
    · obtain rfl : k = 672 := by omega
      rw [if_pos (by omega)]
      exact ⟨mr, mb, rfl, h3⟩
theorem two_pow_le {n : Nat} (hn : n ≤ 10) : 2 ^ n ≤ 1024 := Nat.pow_le_pow_right (n := 2) (i := n) (j := 10) (by decide) hn
theorem L_know93 {n z : Nat} {lb : Nat → Nat} (hn : n ≤ 10) (hz : z ≤ 9) (hc : Cdx n lb) {mm : Nat → Int32} (hmm : ∀ p, p < 4 * n → mm p = nI (mate n lb p)) (ml : Nat → Int32) (mk : Int32) {mr : Nat → Int64} (hr : repM (fun _ => 0) mr) (mb : Nat → Int64) : ∀ (m i : Nat) (t : Nat → Nat) (mt my : Nat → Int32), i ≤ 2 ^ n → 2 ^ n < m + i → (∀ j, t j ≤ i) → (∀ j, t j ≠ 0 → j % 32 ≤ 29) → (∀ j, j < 672 → my j = nI (t j)) → (∀ x, Qs t 672 x = sm (fun m => Gx n x (n - bsum m n) (z + ways n lb (fun j => m.testBit j) (List.range n))) i) →
    ∃ mt' mr' my' mb', L_M_know_93 m (nI i) (nI n) (nI z) ml mm mt mk mr my mb = some (mm, mt', mk, mr', my', mb') ∧ repM (Pf n z lb) mr' := by
  intro m
  induction m with
  | zero => intro i t mt my h1 h2; omega
  | succ m L_know93 =>
    intro i t mt my h1 h2 h3 h4 h5 h6
    have hp := two_pow_le hn
    suffices g : ∃ mt' mr' my' mb', J_M_know_93 (L_M_know_93 m) (nI i) (nI n) (nI z) ml mm mt mk mr my mb = some (mm, mt', mk, mr', my', mb') ∧ repM (Pf n z lb) mr' from g
    unfold J_M_know_93
    rw [sh1 n (by omega)]
    simp (disch := omega) only [le32, nI_1]
    by_cases q : i < 2 ^ n
    · obtain ⟨mt1, f1⟩ := F_ways (z := z) (mt := mt) hn (by omega : i < 1024) hc hmm
      have hb := bsum_le i n
      have hw : ways n lb (fun j => i.testBit j) (List.range n) ≤ 2 * n := by
        have := cy_le (prl (fun j => i.testBit j) (List.range n)) (mate n lb)
        rw [prl_len, List.length_range] at this
        exact this
      generalize hwe : ways n lb (fun j => i.testBit j) (List.range n) = w at *
      have ei : ((32 : Int32) * ((nI n - ((2 : Int32) * nI (bsum i n))) + (10 : Int32))) + nI (z + w) = nI (32 * (n + 10 - 2 * bsum i n) + (z + w)) := by
        have : (nI n - ((2 : Int32) * nI (bsum i n))) + (10 : Int32) = nI (n + 10 - 2 * bsum i n) := by
          rw [show (2 : Int32) = iI 2 from rfl, show (10 : Int32) = iI 10 from rfl, nI_iI n, nI_iI (bsum i n), iI_mul, iI_sub, iI_add, nI_iI]
          congr 1
          omega
        rw [this, e32, pk_mul, nI_add]
      rw [if_neg (by omega), F_bits hn q]
      simp only [Option.bind_some]
      rw [f1]
      simp only [Option.bind_some]
      rw [ei]
      simp (disch := omega) only [in32, cl32]
      rw [if_pos (by omega), if_pos (by omega), h5 _ (by omega), show nI (t (32 * (n + 10 - 2 * bsum i n) + (z + w))) + (1 : Int32) = nI (t (32 * (n + 10 - 2 * bsum i n) + (z + w)) + 1) from nI_1 _]
      refine L_know93 (i + 1) (fun j => if j = 32 * (n + 10 - 2 * bsum i n) + (z + w) then t j + 1 else t j) mt1 _ (by omega) (by omega) (fun j => ?_) (fun j hj => ?_) (fun j hj => ?_) (fun x => ?_)
      · have := h3 j
        split <;> omega
      · by_cases v : j = 32 * (n + 10 - 2 * bsum i n) + (z + w)
        · subst v; omega
        · rw [if_neg v] at hj; exact h4 j hj
      · by_cases v : j = 32 * (n + 10 - 2 * bsum i n) + (z + w)
        · subst v; rw [pk_us, if_pos rfl]
        · rw [pk_un v, if_neg v]; exact h5 j hj
      · rw [Qs_inc (by omega), h6 x]
        simp only [sm]
        rw [hwe]
        congr 1
        unfold Ek Gx
        rw [show (32 * (n + 10 - 2 * bsum i n) + (z + w)) % 32 = z + w by omega, show (32 * (n + 10 - 2 * bsum i n) + (z + w)) / 32 = n + 10 - 2 * bsum i n by omega]
        by_cases v : z + w = 0
        · rw [if_pos v, if_pos v]
        · rw [if_neg v, if_neg v]
          congr 1
          omega
    · obtain rfl : i = 2 ^ n := by omega
      rw [if_pos (by omega)]
      obtain ⟨mr', mb', f1, r1⟩ := L_know143 (t := t) (fun j => Nat.le_trans (h3 j) hp) h4 h5 (nI n) (nI z) ml mm mt mk fu 0 mr mb (by omega) (by decide) (fun j hj => hr j hj)
      refine ⟨mt, mr', my, mb', f1, fun j hj => ?_⟩
      rw [r1 j hj, h6, Pf_mask]
theorem L_know71 {n z : Nat} {lb : Nat → Nat} (hn : n ≤ 10) (hz : z ≤ 9) (hc : Cdx n lb) {mm : Nat → Int32} (hmm : ∀ p, p < 4 * n → mm p = nI (mate n lb p)) (ml mt : Nat → Int32) (mk : Int32) {mr : Nat → Int64} (hr : repM (fun _ => 0) mr) (mb : Nat → Int64) : ∀ (m i : Nat) (my : Nat → Int32), i ≤ 672 → 672 < m + i → (∀ j, j < i → my j = 0) →
    ∃ mt' mr' my' mb', L_M_know_71 m (nI i) (nI n) (nI z) ml mm mt mk mr my mb = some (mm, mt', mk, mr', my', mb') ∧ repM (Pf n z lb) mr'
  | 0, i, my, h1, h2, _ => by omega
  | m + 1, i, my, h1, h2, h3 => by
    suffices g : ∃ mt' mr' my' mb', J_M_know_71 (L_M_know_71 m) (nI i) (nI n) (nI z) ml mm mt mk mr my mb = some (mm, mt', mk, mr', my', mb') ∧ repM (Pf n z lb) mr' from g
    unfold J_M_know_71
    simp (disch := omega) only [e672, le32, in32, cl32, nI_1]
    by_cases q : i < 672
    · rw [if_neg (by omega), if_pos q]
      refine L_know71 hn hz hc hmm ml mt mk hr mb m (i + 1) _ (by omega) (by omega) (fun j hj => ?_)
      by_cases v : j = i
      · subst v; exact pk_us
      · rw [pk_un v]; exact h3 j (by omega)
    · obtain rfl : i = 672 := by omega
      rw [if_pos (by omega)]
      have hp := two_pow_le hn
      refine L_know93 hn hz hc hmm ml mk hr mb fu 0 (fun _ => 0) mt my (Nat.zero_le _) (by have : fu = 5000 := rfl; omega) (fun _ => by omega) (fun j hj => absurd rfl hj) (fun j hj => h3 j hj) (fun x => ?_)
      unfold Qs
      have : sm (fun k => lN 0 * Ek k x) 672 = sm (fun _ => 0) 672 := sm_ext (fun k _ => by rw [show lN 0 = 0 from rfl, Int64.zero_mul])
      rw [this, sm_zero]
      rfl
def z1 (n z : Nat) : Nat := if n + z = 0 then 1 else z
def Pol (n z : Nat) (lb : Nat → Nat) (x : Int) : Int64 := if ft n lb = 0 then Pf n (z1 n z) lb x else 0
theorem L_know15 {n z : Nat} {lb : Nat → Nat} {ml : Nat → Int32} (hn : n ≤ 10) (hz : z ≤ 9) (hl : labs n ml lb) (mm mt my : Nat → Int32) (mb : Nat → Int64) : ∀ (m i : Nat) (mr : Nat → Int64), i ≤ 260 → 260 < m + i → (∀ j, j < i → mr j = 0) →
    ∃ mm' mt' mr' my' mb', L_M_know_15 m (nI i) (nI n) (nI z) ml mm mt 1 mr my mb = some (mm', mt', 1, mr', my', mb') ∧ repM (Pol n z lb) mr'
  | 0, i, mr, h1, h2, _ => by omega
  | m + 1, i, mr, h1, h2, h3 => by
    suffices g : ∃ mm' mt' mr' my' mb', J_M_know_15 (L_M_know_15 m) (nI i) (nI n) (nI z) ml mm mt 1 mr my mb = some (mm', mt', 1, mr', my', mb') ∧ repM (Pol n z lb) mr' from g
    unfold J_M_know_15
    simp (disch := omega) only [e260, le32, in32, cl32, nI_1, nI_add]
    by_cases q : i < 260
    · rw [if_neg (by omega), if_pos q]
      refine L_know15 hn hz hl mm mt my mb m (i + 1) _ (by omega) (by omega) (fun j hj => ?_)
      by_cases v : j = i
      · subst v; exact pk_uLs
      · rw [pk_uLn v]; exact h3 j (by omega)
    · obtain rfl : i = 260 := by omega
      have hr : repM (fun _ => 0) mr := fun j hj => h3 j hj
      have hft := ft_lt n lb
      rw [if_pos (by omega), F_mfault hn hl]
      simp only [Option.bind_some]
      simp (disch := omega) only [e0, le32, eq32]
      by_cases w : ft n lb ≤ 0
      · have hc : Cdx n lb := (ft_code hl.lbs).mp (by omega)
        have ep : ∀ x, Pol n z lb x = Pf n (z1 n z) lb x := fun x => if_pos (by omega)
        rw [if_pos w]
        by_cases v : n + z = 0
        · rw [if_pos v, if_pos (by decide)]
          refine ⟨mm, mt, _, my, mb, rfl, fun j hj => ?_⟩
          obtain rfl : n = 0 := by omega
          obtain rfl : z = 0 := by omega
          rw [ep]
          show _ = (if (j : Int) - 128 - (2 * ((0 : Nat) : Int) - ((0 : Nat) : Int)) = 0 then (1 : Int64) else 0)
          by_cases u : j = 128
          · subst u; rfl
          · rw [pk_uLn (by exact u), h3 j (by omega), if_neg (by omega)]
        · rw [if_neg v]
          obtain ⟨mm', f1, r1⟩ := F_mates hn hl hc mm
          rw [f1]
          simp only [Option.bind_some]
          obtain ⟨mt', mr', my', mb', f2, r2⟩ := L_know71 hn hz hc r1 ml mt 1 hr mb fu 0 my (by omega) (by decide) (fun j hj => by omega)
          refine ⟨mm', mt', mr', my', mb', f2, fun j hj => ?_⟩
          rw [r2 j hj, ep, show z1 n z = z from if_neg v]
      · rw [if_neg w]
        refine ⟨mm, mt, mr, my, mb, rfl, fun j hj => ?_⟩
        rw [h3 j hj]
        exact (if_neg (by omega)).symm
theorem F_know {n z : Nat} {lb : Nat → Nat} {ml : Nat → Int32} (hn : n ≤ 10) (hz : z ≤ 9) (hl : labs n ml lb) (mm mt my : Nat → Int32) (mr mb : Nat → Int64) : ∃ mm' mt' mr' my' mb', F_M_know (nI n) (nI z) ml mm mt 0 mr my mb = some (mm', mt', 1, mr', my', mb') ∧ repM (Pol n z lb) mr' := by
  show ∃ mm' mt' mr' my' mb', J_M_know_0 (nI n) (nI z) ml mm mt 0 mr my mb = some (mm', mt', 1, mr', my', mb') ∧ repM (Pol n z lb) mr'
  unfold J_M_know_0
  rw [if_pos rfl]
  exact L_know15 hn hz hl mm mt my mb fu 0 mr (by omega) (by decide) (fun j hj => by omega)
/-! THE CLASS WORKS IT OUT -/
theorem Pol_supp {n z : Nat} (hn : n ≤ 10) (hz : z ≤ 9) (lb : Nat → Nat) : suppL (Pol n z lb) := by
  intro x hx
  unfold Pol
  by_cases q : ft n lb = 0
  · rw [if_pos q]
    unfold Pf
    have : ∀ (ks : List Nat) (e : Nat → Nat) (a f : Nat), a + ks.length ≤ n → f + 2 * ks.length ≤ 29 → SA (Gx n x) ks e a f = 0 := by
      intro ks
      induction ks with
      | nil =>
        intro e a f h1 h2
        simp only [List.length_nil] at h1 h2
        simp only [SA]
        unfold Gx
        by_cases w : f = 0
        · rw [if_pos w]
        · rw [if_neg w]; exact Dp_supp _ _ (by omega)
      | cons k ks ih =>
        intro e a f h1 h2
        simp only [List.length_cons] at h1 h2
        have c1 := clA_le e k
        have c2 := clB_le e k
        simp only [SA]
        rw [ih _ _ _ (by omega) (by omega), ih _ _ _ (by omega) (by omega)]
        rfl
    have hz1 : z1 n z ≤ 9 := by unfold z1; split <;> omega
    exact this _ _ _ _ (by rw [List.length_range]; omega) (by rw [List.length_range]; omega)
  · rw [if_neg q]
/-- the order of the crossings: each once -/
def ordOK (n : Nat) (od : Nat → Int32) : Prop := ∃ ks : List Nat, ks.Perm (List.range n) ∧ ordL od 0 ks
theorem F_isCode {n : Nat} {lab : Nat → Int32} {lb : Nat → Nat} (hn : n ≤ 10) (hl : labs n lab lb) (sd : Nat → Int32) : F_B_isCode lab (nI n) sd = some (if ft n lb = 0 then 1 else 0, stand n lb) := by
  show J_B_isCode_0 lab (nI n) sd = _
  unfold J_B_isCode_0
  have := ft_lt n lb
  rw [F_fault hn hl]
  simp only [Option.bind_some]
  simp (disch := omega) only [nz32]
  by_cases q : ft n lb = 0
  · rw [if_pos q, if_pos q]
  · rw [if_neg q, if_neg q]
theorem F_work {n z : Nat} {lb : Nat → Nat} {lab od : Nat → Int32} (hn : n ≤ 10) (hz : z ≤ 9) (hl : labs n lab lb) (ho : ordOK n od) (sd ta oe fp : Nat → Int32) (ro sp : Nat → Int64) (qr qs : Nat) :
    ∃ sd' ta' oe' fp' ro' sp' qr' qs', F_B_workOut lab (nI n) (nI z) od sd ta 0 oe fp ro sp qr qs = some (sd', ta', 1, oe', fp', ro', sp', qr', qs') ∧ repL (Pol n z lb) ro' := by
  show ∃ sd' ta' oe' fp' ro' sp' qr' qs', J_B_workOut_0 lab (nI n) (nI z) od sd ta 0 oe fp ro sp qr qs = some (sd', ta', 1, oe', fp', ro', sp', qr', qs') ∧ repL (Pol n z lb) ro'
  unfold J_B_workOut_0
  rw [if_pos rfl, show F_P_setZero ro = some (fun _ => 0) from rfl]
  simp only [Option.bind_some]
  rw [F_isCode hn hl]
  simp only [Option.bind_some]
  by_cases q : ft n lb = 0
  · have hc : Cdx n lb := (ft_code hl.lbs).mp q
    obtain ⟨ks, k1, k2⟩ := ho
    have hlen : ks.length = n := by rw [k1.length_eq, List.length_range]
    have hnd : ks.Nodup := k1.nodup_iff.mpr List.nodup_range
    rw [if_pos q, if_neg (by decide)]
    obtain ⟨oe1, fp1, f1, r1⟩ := F_follow hn hl hc oe fp
    have hrep : rep (mate n lb) oe1 := fun x hx => by
      have := (mate_live hc x).mp hx
      exact ⟨by omega, r1 x this⟩
    have hz1 : z1 n z ≤ 9 := by unfold z1; split <;> omega
    have ft1 := F_tally hn od ks 12 0 0 (z1 n z) (mate n lb) oe1 (fun _ => 0) (by omega) (by omega) (by omega) (by omega) k2 (mate_inv hc) hrep hnd (fun x hx => (mate_live hc x).mpr (by have := List.mem_range.mp (k1.mem_iff.mp hx); omega))
    have est : F_B_tallyStates lab (nI n) (nI z) od ta oe fp = some (fun j => nI (tl ks (mate n lb) 0 (z1 n z) (fun _ => 0) j), oe1, fp1) := by
      show J_B_tallyStates_0 lab (nI n) (nI z) od ta oe fp = _
      unfold J_B_tallyStates_0 J_B_tallyStates_43 J_B_tallyStates_44 J_B_tallyStates_60
      rw [show (4 : Int32) * nI n = nI (4 * n) from pk_mul 4 n, f1]
      simp only [Option.bind_some]
      simp (disch := omega) only [nz32]
      have fin : ∀ y0 : Int32, y0 = nI (z1 n z) → (F_B_tallyFrom 12 0 0 y0 (nI n) od (fun _ => 0) oe1).bind (fun v_1 => some (v_1.1, v_1.2, fp1)) = some (fun j => nI (tl ks (mate n lb) 0 (z1 n z) (fun _ => 0) j), oe1, fp1) := fun y0 hy => by
        rw [hy]
        have : F_B_tallyFrom 12 0 0 (nI (z1 n z)) (nI n) od (fun _ => 0) oe1 = some (fun j => nI (tl ks (mate n lb) 0 (z1 n z) (fun _ => 0) j), oe1) := ft1
        rw [this]
        rfl
      by_cases a1 : n = 0
      · rw [if_pos a1]
        by_cases a2 : z = 0
        · rw [if_pos a2, if_neg (by decide)]
          exact fin 1 (by rw [show z1 n z = 1 from if_pos (by omega)]; rfl)
        · rw [if_neg a2, if_pos trivial]
          exact fin _ (by rw [show z1 n z = z from if_neg (by omega)])
      · rw [if_neg a1, if_pos trivial]
        exact fin _ (by rw [show z1 n z = z from if_neg (by omega)])
    rw [est]
    simp only [Option.bind_some]
    obtain ⟨ro', sp', qr', qs', f3, r3⟩ := F_sum hn (t := tl ks (mate n lb) 0 (z1 n z) (fun _ => 0)) (fun j => by
      have h1 := tl_le ks (mate n lb) 0 (z1 n z) (fun _ => 0) j
      have h2 := two_pow_le hn
      rw [hlen] at h1
      omega) sp qr qs
    rw [f3]
    refine ⟨_, _, _, _, ro', sp', qr', qs', rfl, fun j hj => ?_⟩
    rw [r3 j hj, Hs_tl hn _ ks _ 0 _ _ (by omega) (by omega), Hs_zero, Int64.zero_add, SA_any hc k1]
    exact (if_pos q).symm
  · rw [if_neg q, if_pos rfl]
    refine ⟨_, _, _, _, _, sp, qr, qs, rfl, fun j hj => ?_⟩
    exact (if_neg q).symm
