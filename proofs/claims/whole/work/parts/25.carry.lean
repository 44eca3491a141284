/-! carry and move -/
def SRel (n : Nat) (lb : Nat → Nat) (lab sg ml ms : Nat → Int32) : Prop := labs n lab lb ∧ labs n ml lb ∧ sgOK n sg ms
theorem SRel_sw {n k : Nat} {lb : Nat → Nat} {lab sg ml ms : Nat → Int32} (hk : k + 1 < n) (h : SRel n lb lab sg ml ms) : SRel n (fun j => lb (sw k j)) (fun j => lab (sw k j)) (fun j => sg (s2 k j)) (fun j => ml (sw k j)) (fun j => ms (s2 k j)) := by
  obtain ⟨h1, h2, h3⟩ := h
  refine ⟨fun j hj => h1 _ ((sw_lt hk).mpr hj), fun j hj => h2 _ ((sw_lt hk).mpr hj), fun j hj => h3 _ ?_⟩
  unfold s2
  repeat' split
  all_goals omega
theorem carry_up {n to f : Nat} (hn : n ≤ 10) (hto : to < n) (hf : f < n) : ∀ (d i : Nat) (lab sg ml ms : Nat → Int32) (lb : Nat → Nat), i + d = to → SRel n lb lab sg ml ms →
    ∃ (lab' sg' ml' ms' : Nat → Int32) (lb' : Nat → Nat), SRel n lb' lab' sg' ml' ms' ∧ (∀ z x, Pol n z lb' x = Pol n z lb x) ∧ (∀ j, j < 4 * to → lab' j = if j < 4 * i then lab j else lab (j + 4)) ∧ (∀ k, k < to → sg' k = if k < i then sg k else sg (k + 1)) ∧ (∀ m, d < m → L_B_carry_2 m (nI f) (nI to) (nI i) lab sg = L_B_carry_20 fu (nI to) (nI f) lab' sg') ∧ ∀ m, d < m → ∀ mn, L_M_move_28 m (nI f) (nI to) (nI i) mn ms ml = L_M_move_48 fu (nI to) (iI ((f : Int) - 1)) mn ms' ml'
  | 0, i, lab, sg, ml, ms, lb, h1, h2 => by
    refine ⟨lab, sg, ml, ms, lb, h2, fun _ _ => rfl, fun j hj => by rw [if_pos (by omega)], fun k hk => by rw [if_pos (by omega)], fun m hm => ?_, fun m hm mn => ?_⟩
    · match m, hm with
      | m + 1, hm =>
        show J_B_carry_2 (L_B_carry_2 m) (nI f) (nI to) (nI i) lab sg = _
        unfold J_B_carry_2
        rw [if_pos (nI_le (by omega) (by omega))]
    · match m, hm with
      | m + 1, hm =>
        show J_M_move_28 (L_M_move_28 m) (nI f) (nI to) (nI i) mn ms ml = _
        unfold J_M_move_28
        rw [if_pos (nI_le (by omega) (by omega)), show nI f - (1 : Int32) = iI ((f : Int) - 1) by rw [nI_iI, i1, iI_sub]]
  | d + 1, i, lab, sg, ml, ms, lb, h1, h2 => by
    have hi : i + 1 < n := by omega
    obtain ⟨lab', sg', ml', ms', lb', g1, g2, g3, g4, g5, g6⟩ := carry_up hn hto hf d (i + 1) _ _ _ _ _ (by omega) (SRel_sw hi h2)
    refine ⟨lab', sg', ml', ms', lb', g1, fun z x => ?_, fun j hj => ?_, fun k hk => ?_, fun m hm => ?_, fun m hm mn => ?_⟩
    · rw [g2, Pol_sw hi z lb h2.1.lbs]
    · rw [g3 j hj]
      unfold sw
      by_cases a : j < 4 * i
      · rw [if_pos a, if_pos (by omega), if_pos a]
      · by_cases b : j < 4 * (i + 1)
        · rw [if_pos b, if_neg a, if_neg a, if_pos (by omega)]
        · rw [if_neg b, if_neg a, if_neg (by omega), if_neg (by omega), if_neg (by omega)]
    · rw [g4 k hk]
      unfold s2
      by_cases a : k < i
      · rw [if_pos a, if_pos (by omega), if_neg (by omega), if_neg (by omega)]
      · by_cases b : k < i + 1
        · rw [if_pos b, if_neg a, if_pos (by omega), show k = i by omega]
        · rw [if_neg b, if_neg a, if_neg (by omega), if_neg (by omega)]
    · match m, hm with
      | m + 1, hm =>
        show J_B_carry_2 (L_B_carry_2 m) (nI f) (nI to) (nI i) lab sg = _
        unfold J_B_carry_2
        rw [if_neg (nI_ge (by omega) (by omega)), F_swap (by omega)]
        simp only [Option.bind_some, nI_1]
        exact g5 m (by omega)
    · match m, hm with
      | m + 1, hm =>
        show J_M_move_28 (L_M_move_28 m) (nI f) (nI to) (nI i) mn ms ml = _
        unfold J_M_move_28
        rw [if_neg (nI_ge (by omega) (by omega)), F_exch (by omega)]
        simp only [Option.bind_some, nI_1]
        exact g6 m (by omega) mn
theorem carry_down {n to : Nat} (hn : n ≤ 10) : ∀ (d i : Nat) (lab sg ml ms : Nat → Int32) (lb : Nat → Nat), i = to + d → i < n → SRel n lb lab sg ml ms →
    ∃ (lab' sg' ml' ms' : Nat → Int32) (lb' : Nat → Nat), SRel n lb' lab' sg' ml' ms' ∧ (∀ z x, Pol n z lb' x = Pol n z lb x) ∧ (∀ m, d < m → L_B_carry_20 m (nI to) (nI i) lab sg = some (lab', sg')) ∧ ∀ m, d < m → ∀ mn, L_M_move_48 m (nI to) (iI ((i : Int) - 1)) mn ms ml = some (1, ms', ml')
  | 0, i, lab, sg, ml, ms, lb, h1, h0, h2 => by
    refine ⟨lab, sg, ml, ms, lb, h2, fun _ _ => rfl, fun m hm => ?_, fun m hm mn => ?_⟩
    · match m, hm with
      | m + 1, hm =>
        show J_B_carry_20 (L_B_carry_20 m) (nI to) (nI i) lab sg = _
        unfold J_B_carry_20
        rw [if_pos (nI_le (by omega) (by omega))]
    · match m, hm with
      | m + 1, hm =>
        show J_M_move_48 (L_M_move_48 m) (nI to) (iI ((i : Int) - 1)) mn ms ml = _
        unfold J_M_move_48
        rw [nI_iI to]
        simp (disch := omega) only [lt_i]
        rw [if_pos (by omega)]
  | d + 1, i, lab, sg, ml, ms, lb, h1, h0, h2 => by
    obtain ⟨i', rfl⟩ : ∃ i', i = i' + 1 := ⟨i - 1, by omega⟩
    have hi : i' + 1 < n := by omega
    obtain ⟨lab', sg', ml', ms', lb', g1, g2, g5, g6⟩ := carry_down (to := to) hn d i' _ _ _ _ _ (by omega) (by omega) (SRel_sw hi h2)
    refine ⟨lab', sg', ml', ms', lb', g1, fun z x => ?_, fun m hm => ?_, fun m hm mn => ?_⟩
    · rw [g2, Pol_sw hi z lb h2.1.lbs]
    · match m, hm with
      | m + 1, hm =>
        show J_B_carry_20 (L_B_carry_20 m) (nI to) (nI (i' + 1)) lab sg = _
        unfold J_B_carry_20
        rw [if_neg (nI_ge (by omega) (by omega)), show nI (i' + 1) - (1 : Int32) = nI i' from nI_pred i', F_swap (by omega), pk_m1]
        simp only [Option.bind_some]
        exact g5 m (by omega)
    · match m, hm with
      | m + 1, hm =>
        show J_M_move_48 (L_M_move_48 m) (nI to) (iI (((i' + 1 : Nat) : Int) - 1)) mn ms ml = _
        unfold J_M_move_48
        rw [show ((i' + 1 : Nat) : Int) - 1 = (i' : Int) by omega, ← nI_iI i', if_neg (nI_nlt (by omega) (by omega)), F_exch (by omega)]
        simp only [Option.bind_some]
        rw [nI_iI i', im1, iI_add]
        exact g6 m (by omega) mn
theorem repM_ext {f g : Int → Int64} {mr : Nat → Int64} (h : repM f mr) (e : ∀ x, g x = f x) : repM g mr := fun j hj => by rw [e, h j hj]
theorem op_move {lab sg : Nat → Int32} {cc ci : Int32} {od : Nat → Int32} {we : Int32} {ro : Nat → Int64} {mn mc : Int32} {ms ml : Nat → Int32} {mk : Int32} {mr : Nat → Int64} (h : Rel lab sg cc ci od we ro mn mc ms ml mk mr) (x1 x2 : Int32) :
    ∃ vB vM, F_B_move x1 x2 lab sg cc od we = some vB ∧ F_M_move x1 x2 mn ms ml = some vM ∧ vB.1 = vM.1 ∧ Rel vB.2.1 vB.2.2.1 cc ci vB.2.2.2.1 vB.2.2.2.2 ro mn mc vM.2.1 vM.2.2 mk mr := by
  obtain ⟨n, z, lb, hn, hz, rfl, rfl, rfl, rfl, l1, l2, sgo, oo, c1, c2⟩ := id h
  have hb : F_B_move x1 x2 lab sg (nI n) od we = J_B_move_0 x1 x2 lab sg (nI n) od we := rfl
  have hm : F_M_move x1 x2 (nI n) ms ml = J_M_move_0 x1 x2 (nI n) ms ml := rfl
  rw [hb, hm]
  unfold J_B_move_0 J_M_move_0
  have hfu : fu = 5000 := rfl
  rcases isCross hn x1 with ⟨k, k1, k2, k3⟩ | ⟨k1, k2⟩
  · rw [k3]
    simp only [Option.bind_some, one_ne, if_false]
    rcases isCross hn x2 with ⟨j, j1, j2, j3⟩ | ⟨j1, j2⟩
    · rw [j3, F_order]
      simp only [Option.bind_some, one_ne, if_false]
      rw [k2, j2, if_neg (nI_pos (show k < 2 ^ 31 by omega)), if_neg (nI_ge k1 (by omega)), if_neg (nI_pos (show j < 2 ^ 31 by omega)), if_pos (nI_lt j1 (by omega))]
      have both : ∃ (lab' sg' ml' ms' : Nat → Int32) (lb' : Nat → Nat), SRel n lb' lab' sg' ml' ms' ∧ (∀ z x, Pol n z lb' x = Pol n z lb x) ∧ F_B_carry (nI k) (nI j) lab sg = some (lab', sg') ∧ L_M_move_28 fu (nI k) (nI j) (nI k) (nI n) ms ml = some (1, ms', ml') := by
        rcases Nat.le_total k j with q | q
        · obtain ⟨lab', sg', ml', ms', lb', g1, g2, g3, g4, g5, g6⟩ := carry_up hn j1 k1 (j - k) k lab sg ml ms lb (by omega) ⟨l1, l2, sgo⟩
          refine ⟨lab', sg', ml', ms', lb', g1, g2, ?_, ?_⟩
          · have : F_B_carry (nI k) (nI j) lab sg = L_B_carry_20 fu (nI j) (nI k) lab' sg' := g5 fu (by omega)
            rw [this]
            show J_B_carry_20 (L_B_carry_20 4999) (nI j) (nI k) lab' sg' = _
            unfold J_B_carry_20
            rw [if_pos (nI_le q (by omega))]
          · rw [g6 fu (by omega)]
            show J_M_move_48 (L_M_move_48 4999) (nI j) (iI ((k : Int) - 1)) (nI n) ms' ml' = _
            unfold J_M_move_48
            rw [nI_iI j]
            simp (disch := omega) only [lt_i]
            rw [if_pos (by omega)]
        · obtain ⟨lab', sg', ml', ms', lb', g1, g2, g5, g6⟩ := carry_down hn (k - j) k lab sg ml ms lb (to := j) (by omega) k1 ⟨l1, l2, sgo⟩
          refine ⟨lab', sg', ml', ms', lb', g1, g2, ?_, ?_⟩
          · rw [← g5 fu (by omega)]
            show J_B_carry_2 (L_B_carry_2 4999) (nI k) (nI j) (nI k) lab sg = _
            unfold J_B_carry_2
            rw [if_pos (nI_le q (by omega))]
          · rw [← g6 fu (by omega) (nI n)]
            show J_M_move_28 (L_M_move_28 4999) (nI k) (nI j) (nI k) (nI n) ms ml = _
            unfold J_M_move_28
            rw [if_pos (nI_le q (by omega)), show nI k - (1 : Int32) = iI ((k : Int) - 1) by rw [nI_iI, i1, iI_sub]]
      obtain ⟨lab', sg', ml', ms', lb', ⟨g1, g1b, g1c⟩, g2, g3, g4⟩ := both
      rw [g3, g4]
      refine ⟨_, _, rfl, rfl, rfl, n, z, lb', hn, hz, rfl, rfl, rfl, rfl, g1, g1b, g1c, ordOK_id hn _, Or.inl rfl, ?_⟩
      rcases c2 with c2 | ⟨c2, c3⟩
      · exact Or.inl c2
      · exact Or.inr ⟨c2, repM_ext c3 (g2 z)⟩
    · rw [j2]
      simp only [Option.bind_some, if_true]
      refine ⟨_, (0, ms, ml), rfl, ?_, rfl, h⟩
      rw [k2, if_neg (nI_pos (show k < 2 ^ 31 by omega)), if_neg (nI_ge k1 (by omega))]
      rcases j1 with j1 | j1
      · rw [if_pos j1]
      · by_cases w : x2 < 0
        · rw [if_pos w]
        · rw [if_neg w, if_neg (fun r => by
            rw [Int32.lt_iff_toInt_lt] at r
            rw [Int32.le_iff_toInt_le] at j1
            omega)]
  · rw [k2]
    simp only [Option.bind_some, if_true]
    refine ⟨_, (0, ms, ml), rfl, ?_, rfl, h⟩
    rcases k1 with k1 | k1
    · rw [if_pos k1]
    · by_cases w : x1 < 0
      · rw [if_pos w]
      · rw [if_neg w, if_pos k1]
/-! unite, become -/
def rn (p q l : Nat) : Nat := if l = (if p < q then q else p) then (if q < p then q else p) else l
theorem rn_in {p q l : Nat} (hp : 1 ≤ p ∧ p < 100) (hq : 1 ≤ q ∧ q < 100) (hl : 1 ≤ l ∧ l < 100) : 1 ≤ rn p q l ∧ rn p q l < 100 := by
  unfold rn
  repeat' split
  all_goals omega
theorem F_renamed {p q l : Nat} (hp : p < 100) (hq : q < 100) (hl : l < 100) : F_B_renamed (nI l) (nI p) (nI q) = some (nI (rn p q l)) := by
  show J_B_renamed_0 (nI l) (nI p) (nI q) = _
  unfold J_B_renamed_0 rn
  by_cases a : p < q
  · simp only [if_pos (nI_lt a (show q < 2 ^ 31 by omega)), if_pos a, if_neg (nI_nlt (show p ≤ q by omega) (show q < 2 ^ 31 by omega)), if_neg (show ¬ q < p by omega)]
    simp (disch := omega) only [eq32]
    split <;> rfl
  · simp only [if_neg (nI_nlt (show q ≤ p by omega) (show p < 2 ^ 31 by omega)), if_neg a]
    by_cases b : q < p
    · simp only [if_pos (nI_lt b (show p < 2 ^ 31 by omega)), if_pos b]
      simp (disch := omega) only [eq32]
      split <;> rfl
    · simp only [if_neg (nI_nlt (show p ≤ q by omega) (show q < 2 ^ 31 by omega)), if_neg b]
      simp (disch := omega) only [eq32]
      split <;> rfl
theorem L_unite {n p q : Nat} {lb : Nat → Nat} (hn : n ≤ 10) (hp : 1 ≤ p ∧ p < 100) (hq : 1 ≤ q ∧ q < 100) (hl : lbs n lb) : ∀ (m r i : Nat) (lab : Nat → Int32), i + r = 4 * n → r < m → (∀ j, j < 4 * n → lab j = if j < i then nI (rn p q (lb j)) else nI (lb j)) → ∃ lab', L_B_unite_2 m (nI p) (nI q) (nI i) lab (nI n) = some lab' ∧ labs n lab' (fun j => rn p q (lb j))
  | 0, r, i, lab, _, h2, _ => by omega
  | m + 1, 0, i, lab, h1, h2, h3 => by
    refine ⟨lab, ?_, fun j hj => ⟨by rw [h3 j hj, if_pos (by omega)], rn_in hp hq (hl j hj)⟩⟩
    show J_B_unite_2 (L_B_unite_2 m) (nI p) (nI q) (nI i) lab (nI n) = _
    unfold J_B_unite_2
    rw [show (4 : Int32) * nI n = nI (4 * n) from pk_mul 4 n, if_pos (nI_le (by omega) (by omega))]
  | m + 1, r + 1, i, lab, h1, h2, h3 => by
    have hi := hl i (by omega)
    obtain ⟨lab', f1, r1⟩ := L_unite hn hp hq hl m r (i + 1) (upd lab i (nI (rn p q (lb i)))) (by omega) (by omega) (fun j hj => by
      by_cases w : j = i
      · subst w; rw [pk_us, if_pos (by omega)]
      · rw [pk_un w, h3 j hj]
        by_cases v : j < i
        · rw [if_pos v, if_pos (by omega)]
        · rw [if_neg v, if_neg (by omega)])
    refine ⟨lab', ?_, r1⟩
    show J_B_unite_2 (L_B_unite_2 m) (nI p) (nI q) (nI i) lab (nI n) = _
    unfold J_B_unite_2
    rw [show (4 : Int32) * nI n = nI (4 * n) from pk_mul 4 n, if_neg (nI_ge (by omega) (by omega)), cl32 (by omega), h3 i (by omega), if_neg (show ¬ i < i by omega), F_renamed hp.2 hq.2 hi.2]
    simp only [Option.bind_some, in32 (n := 40) (show i < 2147483648 by omega), if_pos (show i < 40 by omega), nI_1]
    exact f1
theorem F_unite {n p q : Nat} {lb : Nat → Nat} {lab : Nat → Int32} (hn : n ≤ 10) (hp : 1 ≤ p ∧ p < 100) (hq : 1 ≤ q ∧ q < 100) (hl : labs n lab lb) : ∃ lab', F_B_unite (nI p) (nI q) lab (nI n) = some lab' ∧ labs n lab' (fun j => rn p q (lb j)) :=
  L_unite hn hp hq hl.lbs fu (4 * n) 0 lab (by omega) (by have : fu = 5000 := rfl; omega) (fun j hj => by rw [if_neg (by omega)]; exact (hl j hj).1)
/-- four labels in a row -/
def four (mf : Nat → Int32) (fr : Nat → Nat) : Prop := ∀ i, i < 4 → mf i = nI (fr i) ∧ 1 ≤ fr i ∧ fr i < 100
def bc (f t l : Nat) : Nat := if l = f then t else l
theorem L_bec46 {f t : Nat} (hf : 1 ≤ f ∧ f < 100) (ht : 1 ≤ t ∧ t < 100) (mn : Int32) (ml : Nat → Int32) {fr : Nat → Nat} (hfr : ∀ i, i < 4 → 1 ≤ fr i ∧ fr i < 100) : ∀ (m r i : Nat) (mf : Nat → Int32), i + r = 4 → r < m → (∀ j, j < 4 → mf j = if j < i then nI (bc f t (fr j)) else nI (fr j)) → ∃ mf', L_M_become_46 m (nI f) (nI t) (nI i) mn ml mf = some (ml, mf') ∧ four mf' (fun j => bc f t (fr j))
  | 0, r, i, mf, _, h2, _ => by omega
  | m + 1, 0, i, mf, h1, h2, h3 => by
    refine ⟨mf, ?_, fun j hj => ⟨by rw [h3 j hj, if_pos (by omega)], ?_⟩⟩
    · show J_M_become_46 (L_M_become_46 m) (nI f) (nI t) (nI i) mn ml mf = _
      unfold J_M_become_46
      rw [if_pos (show (4 : Int32) ≤ nI i from nI_le (a := 4) (by omega) (by omega))]
    · have := hfr j hj
      unfold bc
      dsimp only
      split <;> omega
  | m + 1, r + 1, i, mf, h1, h2, h3 => by
    have hi := hfr i (by omega)
    obtain ⟨mf', f1, r1⟩ := L_bec46 hf ht mn ml hfr m r (i + 1) (upd mf i (nI (bc f t (fr i)))) (by omega) (by omega) (fun j hj => by
      by_cases w : j = i
      · subst w; rw [pk_us, if_pos (by omega)]
      · rw [pk_un w, h3 j hj]
        by_cases v : j < i
        · rw [if_pos v, if_pos (by omega)]
        · rw [if_neg v, if_neg (by omega)])
    refine ⟨mf', ?_, r1⟩
    show J_M_become_46 (L_M_become_46 m) (nI f) (nI t) (nI i) mn ml mf = _
    unfold J_M_become_46
    rw [if_neg (show ¬ (4 : Int32) ≤ nI i from nI_ge (b := 4) (by omega) (by decide)), cl32 (by omega), h3 i (by omega), if_neg (show ¬ i < i by omega)]
    simp only [in32 (n := 4) (show i < 2147483648 by omega), if_pos (show i < 4 by omega), nI_1, eq32 (show fr i < 2147483648 by omega) (show f < 2147483648 by omega)]
    by_cases w : fr i = f
    · rw [if_pos w]
      rw [show bc f t (fr i) = t from if_pos w] at f1
      exact f1
    · rw [if_neg w]
      rw [show bc f t (fr i) = fr i from if_neg w] at f1
      exact f1
theorem L_bec2 {n f t : Nat} (hn : n ≤ 10) (hf : 1 ≤ f ∧ f < 100) (ht : 1 ≤ t ∧ t < 100) {lb fr : Nat → Nat} (hl : lbs n lb) {mf : Nat → Int32} (hfr : four mf fr) : ∀ (m r i : Nat) (ml : Nat → Int32), i + r = 4 * n → r < m → (∀ j, j < 4 * n → ml j = if j < i then nI (bc f t (lb j)) else nI (lb j)) → ∃ ml' mf', L_M_become_2 m (nI f) (nI t) (nI i) (nI n) ml mf = some (ml', mf') ∧ labs n ml' (fun j => bc f t (lb j)) ∧ four mf' (fun j => bc f t (fr j))
  | 0, r, i, ml, _, h2, _ => by omega
  | m + 1, 0, i, ml, h1, h2, h3 => by
    obtain ⟨mf', f1, r1⟩ := L_bec46 hf ht (nI n) ml (fun i hi => (hfr i hi).2) fu 4 0 mf (by omega) (by decide) (fun j hj => by rw [if_neg (by omega)]; exact (hfr j hj).1)
    refine ⟨ml, mf', ?_, fun j hj => ⟨by rw [h3 j hj, if_pos (by omega)], ?_⟩, r1⟩
    · show J_M_become_2 (L_M_become_2 m) (nI f) (nI t) (nI i) (nI n) ml mf = _
      unfold J_M_become_2
      rw [show (4 : Int32) * nI n = nI (4 * n) from pk_mul 4 n, if_pos (nI_le (by omega) (by omega))]
      exact f1
    · have := hl j hj
      unfold bc
      dsimp only
      split <;> omega
  | m + 1, r + 1, i, ml, h1, h2, h3 => by
    have hi := hl i (by omega)
    obtain ⟨ml', mf', f1, r1⟩ := L_bec2 hn hf ht hl hfr m r (i + 1) (upd ml i (nI (bc f t (lb i)))) (by omega) (by omega) (fun j hj => by
      by_cases w : j = i
      · subst w; rw [pk_us, if_pos (by omega)]
      · rw [pk_un w, h3 j hj]
        by_cases v : j < i
        · rw [if_pos v, if_pos (by omega)]
        · rw [if_neg v, if_neg (by omega)])
    refine ⟨ml', mf', ?_, r1⟩
    show J_M_become_2 (L_M_become_2 m) (nI f) (nI t) (nI i) (nI n) ml mf = _
    unfold J_M_become_2
    rw [show (4 : Int32) * nI n = nI (4 * n) from pk_mul 4 n, if_neg (nI_ge (by omega) (by omega)), cl32 (by omega), h3 i (by omega), if_neg (show ¬ i < i by omega)]
    simp only [in32 (n := 40) (show i < 2147483648 by omega), if_pos (show i < 40 by omega), nI_1, eq32 (show lb i < 2147483648 by omega) (show f < 2147483648 by omega)]
    by_cases w : lb i = f
    · rw [if_pos w]
      rw [show bc f t (lb i) = t from if_pos w] at f1
      exact f1
    · rw [if_neg w]
      rw [show bc f t (lb i) = lb i from if_neg w] at f1
      exact f1
theorem F_become {n f t : Nat} (hn : n ≤ 10) (hf : 1 ≤ f ∧ f < 100) (ht : 1 ≤ t ∧ t < 100) {lb fr : Nat → Nat} {ml mf : Nat → Int32} (hl : labs n ml lb) (hfr : four mf fr) : ∃ ml' mf', F_M_become (nI f) (nI t) (nI n) ml mf = some (ml', mf') ∧ labs n ml' (fun j => bc f t (lb j)) ∧ four mf' (fun j => bc f t (fr j)) :=
  L_bec2 hn hf ht hl.lbs hfr fu (4 * n) 0 ml (by omega) (by have : fu = 5000 := rfl; omega) (fun j hj => by rw [if_neg (by omega)]; exact (hl j hj).1)
theorem F_mjoin {n p q : Nat} (hn : n ≤ 10) (hp : 1 ≤ p ∧ p < 100) (hq : 1 ≤ q ∧ q < 100) {lb fr : Nat → Nat} {ml mf : Nat → Int32} (hl : labs n ml lb) (hfr : four mf fr) : ∃ ml' mf', F_M_join (nI p) (nI q) (nI n) ml mf = some (nI (if p = q then 1 else 0), ml', mf') ∧ labs n ml' (fun j => rn p q (lb j)) ∧ four mf' (fun j => rn p q (fr j)) := by
  have e : F_M_join (nI p) (nI q) (nI n) ml mf = J_M_join_0 (nI p) (nI q) (nI n) ml mf := rfl
  rw [e]
  unfold J_M_join_0 J_M_join_18 J_M_join_28
  by_cases a : p = q
  · subst a
    rw [if_pos rfl, if_pos rfl]
    have er : ∀ l, rn p p l = l := fun l => by
      unfold rn
      repeat' split
      all_goals omega
    exact ⟨ml, mf, rfl, fun j hj => by dsimp only; rw [er]; exact hl j hj, fun j hj => by dsimp only; rw [er]; exact hfr j hj⟩
  · rw [if_neg (show ¬ nI p = nI q from fun w => a ((nI_eq (by omega) (by omega)).mp w)), if_neg a]
    by_cases b : q ≤ p
    · rw [if_pos (show nI q ≤ nI p from nI_le b (by omega)), if_pos (show nI q ≤ nI p from nI_le b (by omega))]
      obtain ⟨ml', mf', f1, r1, r2⟩ := F_become hn hp hq hl hfr
      have er : ∀ l, rn p q l = bc p q l := fun l => by
        unfold rn bc
        simp only [if_neg (show ¬ p < q by omega), if_pos (show q < p by omega)]
      rw [f1]
      exact ⟨ml', mf', rfl, fun j hj => by dsimp only; rw [er]; exact r1 j hj, fun j hj => by dsimp only; rw [er]; exact r2 j hj⟩
    · rw [if_neg (show ¬ nI q ≤ nI p from nI_ge (by omega) (by omega)), if_neg (show ¬ nI q ≤ nI p from nI_ge (by omega) (by omega))]
      obtain ⟨ml', mf', f1, r1, r2⟩ := F_become hn hq hp hl hfr
      have er : ∀ l, rn p q l = bc q p l := fun l => by
        unfold rn bc
        simp only [if_pos (show p < q by omega), if_neg (show ¬ q < p by omega)]
      rw [f1]
      exact ⟨ml', mf', rfl, fun j hj => by dsimp only; rw [er]; exact r1 j hj, fun j hj => by dsimp only; rw [er]; exact r2 j hj⟩
