/-! resolve -/
def clo (p q u v : Nat) : Nat := if p = q then (if u = v then 2 else 1) else if u = v then 1 else if (p = u ∧ q = v) ∨ (p = v ∧ q = u) then 1 else 0
def cld (p q u v : Nat) : Nat := (if p = q then 1 else 0) + (if rn p q u = rn p q v then 1 else 0)
theorem clo_cld (p q u v : Nat) : clo p q u v = cld p q u v := by
  unfold clo cld rn
  repeat' split
  all_goals omega
theorem M_clo56 {X Y U y0 y1 p q u v : Nat} {ml : Nat → Int32} (hX : X < 40) (hY : Y < 40) (hU : U < 40) (hV : y1 + y0 < 40) (mX : ml X = nI p) (mY : ml Y = nI q) (mU : ml U = nI u) (mV : ml (y1 + y0) = nI v) (hp : p < 100) (hq : q < 100) (hu : u < 100) (hv : v < 100) : J_M_closing_56 (nI X) (nI Y) (nI U) (nI y0) (nI y1) ml = some (nI (clo p q u v)) := by
  unfold J_M_closing_56 J_M_closing_80 J_M_closing_102 J_M_closing_138 J_M_closing_171 J_M_closing_175 J_M_closing_176
  rw [nI_add y1 y0, cl32 (show X < 2147483648 by omega), cl32 (show Y < 2147483648 by omega), cl32 (show U < 2147483648 by omega), cl32 (show y1 + y0 < 2147483648 by omega), mX, mY, mU, mV]
  simp only [in32 (n := 40) (show X < 2147483648 by omega), in32 (n := 40) (show Y < 2147483648 by omega), in32 (n := 40) (show U < 2147483648 by omega), in32 (n := 40) (show y1 + y0 < 2147483648 by omega), if_pos hX, if_pos hY, if_pos hU, if_pos hV, eq32 (show p < 2147483648 by omega) (show q < 2147483648 by omega), eq32 (show u < 2147483648 by omega) (show v < 2147483648 by omega), eq32 (show p < 2147483648 by omega) (show u < 2147483648 by omega), eq32 (show q < 2147483648 by omega) (show v < 2147483648 by omega), eq32 (show p < 2147483648 by omega) (show v < 2147483648 by omega), eq32 (show q < 2147483648 by omega) (show u < 2147483648 by omega)]
  unfold clo
  have z11 : ((1 : Int32) + 1 = 0) = False := eq_false (by decide)
  have z10 : ((1 : Int32) + 0 = 0) = False := eq_false (by decide)
  have z01 : ((0 : Int32) + 1 = 0) = False := eq_false (by decide)
  have z00 : ((0 : Int32) + 0 = 0) = True := eq_true (by decide)
  simp only [z11, z10, z01, z00, one_ne, if_false, if_true, ite_self]
  by_cases a : p = q
  · simp only [if_pos a]
    by_cases b : u = v
    · simp only [if_pos b]
      repeat' split
      all_goals rfl
    · simp only [if_neg b]
      repeat' split
      all_goals rfl
  · simp only [if_neg a]
    by_cases b : u = v
    · simp only [if_pos b]
      repeat' split
      all_goals rfl
    · simp only [if_neg b]
      repeat' split
      all_goals first | rfl | omega
/-- where the places of a smoothing lie: t = 0 by A, 1 by B -/
def plc (t i : Nat) : Nat := (t + i) % 4
theorem F_closing {n k : Nat} {lb : Nat → Nat} {ml : Nat → Int32} (hn : n ≤ 10) (hk : k < n) (hl : labs n ml lb) (x2 : Int32) (t : Nat) (ht : t = if x2 = 0 then 1 else 0) : F_M_closing (nI k) x2 ml = some (nI (clo (lb (4 * k + plc t 0)) (lb (4 * k + plc t 1)) (lb (4 * k + plc t 2)) (lb (4 * k + plc t 3)))) := by
  have g : ∀ i, i < 4 → ml (4 * k + i) = nI (lb (4 * k + i)) ∧ lb (4 * k + i) < 100 := fun i hi => ⟨(hl _ (by omega)).1, (hl _ (by omega)).2.2⟩
  show J_M_closing_0 (nI k) x2 ml = _
  unfold J_M_closing_0 J_M_closing_12 J_M_closing_26 J_M_closing_41
  rw [show (4 : Int32) * nI k = nI (4 * k) from pk_mul 4 k, show (1 : Int32) = nI 1 from rfl, show (2 : Int32) = nI 2 from rfl, show (3 : Int32) = nI 3 from rfl]
  by_cases q : x2 = 0
  · simp only [if_pos q] at ht ⊢
    subst ht
    rw [show (0 : Int32) = nI 0 from rfl, nI_add, nI_add, nI_add]
    exact M_clo56 (by omega) (by omega) (by omega) (by omega) (g 1 (by omega)).1 (g 2 (by omega)).1 (g 3 (by omega)).1 (g 0 (by omega)).1 (g 1 (by omega)).2 (g 2 (by omega)).2 (g 3 (by omega)).2 (g 0 (by omega)).2
  · simp only [if_neg q] at ht ⊢
    subst ht
    rw [show (0 : Int32) = nI 0 from rfl, nI_add, nI_add, nI_add]
    exact M_clo56 (by omega) (by omega) (by omega) (by omega) (g 0 (by omega)).1 (g 1 (by omega)).1 (g 2 (by omega)).1 (g 3 (by omega)).1 (g 0 (by omega)).2 (g 1 (by omega)).2 (g 2 (by omega)).2 (g 3 (by omega)).2
/-- without crossing k -/
def dl (k j : Nat) : Nat := if j < 4 * k then j else j + 4
theorem L_res39 {n k : Nat} {lb : Nat → Nat} {ml : Nat → Int32} (hn : n ≤ 10) (hk : k < n) (hl : labs n ml lb) (x2 mc : Int32) (ms : Nat → Int32) (mk : Int32) : ∀ (m r i : Nat) (mf : Nat → Int32), i + r = 4 → r < m → (∀ j, j < i → mf j = nI (lb (4 * k + j))) → ∃ mf', four mf' (fun j => lb (4 * k + j)) ∧ L_M_resolve_39 m (nI k) x2 (nI i) (nI n) mc ms ml mk mf = L_M_resolve_78 fu x2 (nI k) (nI (n - 1)) mc ms ml mk mf'
  | 0, r, i, mf, _, h2, _ => by omega
  | m + 1, 0, i, mf, h1, h2, h3 => by
    refine ⟨mf, fun j hj => ⟨h3 j (by omega), (hl _ (by omega)).2⟩, ?_⟩
    show J_M_resolve_39 (L_M_resolve_39 m) (nI k) x2 (nI i) (nI n) mc ms ml mk mf = _
    unfold J_M_resolve_39
    rw [if_pos (show (4 : Int32) ≤ nI i from nI_le (a := 4) (by omega) (by omega)), show nI n - (1 : Int32) = nI (n - 1) from s32 (a := n) (b := 1) (by omega)]
  | m + 1, r + 1, i, mf, h1, h2, h3 => by
    obtain ⟨mf', g1, g2⟩ := L_res39 hn hk hl x2 mc ms mk m r (i + 1) (upd mf i (nI (lb (4 * k + i)))) (by omega) (by omega) (fun j hj => by
      by_cases w : j = i
      · subst w; exact pk_us
      · rw [pk_un w]; exact h3 j (by omega))
    refine ⟨mf', g1, ?_⟩
    show J_M_resolve_39 (L_M_resolve_39 m) (nI k) x2 (nI i) (nI n) mc ms ml mk mf = _
    unfold J_M_resolve_39
    rw [if_neg (show ¬ (4 : Int32) ≤ nI i from nI_ge (b := 4) (by omega) (by decide)), show (4 : Int32) * nI k = nI (4 * k) from pk_mul 4 k, nI_add, cl32 (show 4 * k + i < 2147483648 by omega), cl32 (show i < 2147483648 by omega), (hl (4 * k + i) (by omega)).1]
    simp only [in32 (n := 40) (show 4 * k + i < 2147483648 by omega), in32 (n := 4) (show i < 2147483648 by omega), if_pos (show 4 * k + i < 40 by omega), if_pos (show i < 4 by omega), nI_1]
    exact g2
theorem L_res103 {i : Nat} (hi : i < 9) (rec78 : Int32 → Int32 → Int32 → Int32 → (Nat → Int32) → (Nat → Int32) → Int32 → (Nat → Int32) → Option (Int32 × Int32 × Int32 × (Nat → Int32) × (Nat → Int32) × Int32 × (Nat → Int32))) (x2 mn mc : Int32) (ms : Nat → Int32) (mk : Int32) (mf : Nat → Int32) : ∀ (m r q : Nat) (ml : Nat → Int32), q + r = 4 → r < m → ∃ ml', (∀ j, ml' j = if 4 * i + q ≤ j ∧ j < 4 * i + 4 then ml (j + 4) else ml j) ∧ L_M_resolve_103 rec78 m x2 (nI i) (nI q) mn mc ms ml mk mf = rec78 x2 (nI (i + 1)) mn mc ms ml' mk mf
  | 0, r, q, ml, _, h2 => by omega
  | m + 1, 0, q, ml, h1, h2 => by
    refine ⟨ml, fun j => by rw [if_neg (by omega)], ?_⟩
    show J_M_resolve_103 rec78 (L_M_resolve_103 rec78 m) x2 (nI i) (nI q) mn mc ms ml mk mf = _
    unfold J_M_resolve_103
    rw [if_pos (show (4 : Int32) ≤ nI q from nI_le (a := 4) (by omega) (by omega)), nI_1]
  | m + 1, r + 1, q, ml, h1, h2 => by
    obtain ⟨ml', g1, g2⟩ := L_res103 hi rec78 x2 mn mc ms mk mf m r (q + 1) (upd ml (4 * i + q) (ml (4 * i + 4 + q))) (by omega) (by omega)
    refine ⟨ml', fun j => ?_, ?_⟩
    · rw [g1 j]
      by_cases w : j = 4 * i + q
      · subst w
        rw [if_neg (by omega), pk_us, if_pos (by omega)]
        congr 1
        omega
      · by_cases v : 4 * i + q ≤ j ∧ j < 4 * i + 4
        · rw [if_pos v, if_pos (by omega), pk_un (by omega)]
        · rw [if_neg v, if_neg (by omega), pk_un w]
    · show J_M_resolve_103 rec78 (L_M_resolve_103 rec78 m) x2 (nI i) (nI q) mn mc ms ml mk mf = _
      unfold J_M_resolve_103
      rw [if_neg (show ¬ (4 : Int32) ≤ nI q from nI_ge (b := 4) (by omega) (by decide)), show (4 : Int32) * nI i = nI (4 * i) from pk_mul 4 i, show nI (4 * i) + (4 : Int32) = nI (4 * i + 4) from nI_add _ 4, nI_add, nI_add, cl32 (show 4 * i + q < 2147483648 by omega), cl32 (show 4 * i + 4 + q < 2147483648 by omega)]
      simp only [in32 (n := 40) (show 4 * i + q < 2147483648 by omega), in32 (n := 40) (show 4 * i + 4 + q < 2147483648 by omega), if_pos (show 4 * i + q < 40 by omega), if_pos (show 4 * i + 4 + q < 40 by omega), nI_1]
      exact g2
theorem L_res78 {n' k z t p q u v : Nat} {x2 : Int32} (hn : n' < 10) (hk : k ≤ n') (ht : t = if x2 = 0 then 1 else 0) (hz : z < 100) {lb fr : Nat → Nat} (mk : Int32) {mf : Nat → Int32} (hf : four mf fr) (ep : p = fr (plc t 0)) (eq : q = fr (plc t 1)) (eu : u = fr (plc t 2)) (ev : v = fr (plc t 3)) : ∀ (m r i : Nat) (ms ml : Nat → Int32), i + r = n' → k ≤ i → r < m → (∀ j, j < 4 * n' → (if j < 4 * i then ml j else ml (j + 4)) = nI (lb j) ∧ 1 ≤ lb j ∧ lb j < 100) →
    ∃ ml' ms' mf', L_M_resolve_78 m x2 (nI i) (nI n') (nI z) ms ml mk mf = some (1, nI n', nI (z + cld p q u v), ms', ml', 0, mf') ∧ labs n' ml' (fun j => rn (rn p q u) (rn p q v) (rn p q (lb j))) ∧ ∀ j, j < n' → ms' j = if j < i then ms j else ms (j + 1)
  | 0, r, i, ms, ml, _, _, h2, _ => by omega
  | m + 1, 0, i, ms, ml, h1, h0, h2, h3 => by
    have gp := hf (plc t 0) (by unfold plc; omega)
    have gq := hf (plc t 1) (by unfold plc; omega)
    have gu := hf (plc t 2) (by unfold plc; omega)
    have gv := hf (plc t 3) (by unfold plc; omega)
    rw [← ep] at gp
    rw [← eq] at gq
    rw [← eu] at gu
    rw [← ev] at gv
    have hl : labs n' ml lb := fun j hj => by
      have := h3 j hj
      rwa [if_pos (by omega)] at this
    obtain ⟨ml1, mf1, f1, r1, r2⟩ := F_mjoin (by omega) gp.2 gq.2 hl hf
    have gu1 := r2 (plc t 2) (by unfold plc; omega)
    have gv1 := r2 (plc t 3) (by unfold plc; omega)
    dsimp only at gu1 gv1
    rw [← eu] at gu1
    rw [← ev] at gv1
    obtain ⟨ml2, mf2, f2, r3, r4⟩ := F_mjoin (by omega) gu1.2 gv1.2 r1 r2
    refine ⟨ml2, ms, mf2, ?_, r3, fun j hj => by rw [if_pos (by omega)]⟩
    show J_M_resolve_78 (L_M_resolve_78 m) x2 (nI i) (nI n') (nI z) ms ml mk mf = _
    unfold J_M_resolve_78 J_M_resolve_189 J_M_resolve_237
    rw [if_pos (nI_le (by omega) (by omega))]
    have c0 : (0 : Int32).toNatClampNeg = 0 := rfl
    have c1 : (1 : Int32).toNatClampNeg = 1 := rfl
    have c2 : (2 : Int32).toNatClampNeg = 2 := rfl
    have c3 : (3 : Int32).toNatClampNeg = 3 := rfl
    have d0 : inb (0 : Int32) 4 = true := by decide
    have d1 : inb (1 : Int32) 4 = true := by decide
    have d2 : inb (2 : Int32) 4 = true := by decide
    have d3 : inb (3 : Int32) 4 = true := by decide
    simp only [c0, c1, c2, c3, d0, d1, d2, d3, if_true]
    have fin : ∀ y0 y1 : Int32, y0 = nI (if rn p q u = rn p q v then 1 else 0) → y1 = nI z + nI (if p = q then 1 else 0) → y1 + y0 = nI (z + cld p q u v) := fun y0 y1 h h' => by
      rw [h, h', nI_add, nI_add, Nat.add_assoc]
      rfl
    by_cases w : x2 = 0
    · simp only [if_pos w] at ht ⊢
      subst ht
      rw [show mf 1 = nI p from gp.1, show mf 2 = nI q from gq.1, f1]
      simp only [Option.bind_some]
      rw [show mf1 3 = nI (rn p q u) from gu1.1, show mf1 0 = nI (rn p q v) from gv1.1, f2]
      simp only [Option.bind_some]
      rw [fin _ _ rfl rfl]
    · simp only [if_neg w] at ht ⊢
      subst ht
      rw [show mf 0 = nI p from gp.1, show mf 1 = nI q from gq.1, f1]
      simp only [Option.bind_some]
      rw [show mf1 2 = nI (rn p q u) from gu1.1, show mf1 3 = nI (rn p q v) from gv1.1, f2]
      simp only [Option.bind_some]
      rw [fin _ _ rfl rfl]
  | m + 1, r + 1, i, ms, ml, h1, h0, h2, h3 => by
    obtain ⟨ml1, g1, g2⟩ := L_res103 (i := i) (by omega) (L_M_resolve_78 m) x2 (nI n') (nI z) (upd ms i (ms (i + 1))) mk mf fu 4 0 ml (by omega) (by decide)
    obtain ⟨ml', ms', mf', f1, r1, r2⟩ := L_res78 hn hk ht hz mk hf ep eq eu ev m r (i + 1) (upd ms i (ms (i + 1))) ml1 (by omega) (by omega) (by omega) (fun j hj => by
      have := h3 j hj
      rw [g1 j, g1 (j + 4)]
      by_cases a : j < 4 * i
      · rw [if_pos a] at this
        rw [if_pos (by omega), if_neg (by omega)]; exact this
      · rw [if_neg a] at this
        by_cases b : j < 4 * (i + 1)
        · rw [if_pos b, if_pos (by omega)]; exact this
        · rw [if_neg b, if_neg (by omega)]; exact this)
    refine ⟨ml', ms', mf', ?_, r1, fun j hj => ?_⟩
    · show J_M_resolve_78 (L_M_resolve_78 m) x2 (nI i) (nI n') (nI z) ms ml mk mf = _
      unfold J_M_resolve_78
      rw [if_neg (nI_ge (by omega) (by omega)), show nI i + (1 : Int32) = nI (i + 1) from nI_1 _, cl32 (show i < 2147483648 by omega), cl32 (show i + 1 < 2147483648 by omega)]
      simp only [in32 (n := 10) (show i < 2147483648 by omega), in32 (n := 10) (show i + 1 < 2147483648 by omega), if_pos (show i < 10 by omega), if_pos (show i + 1 < 10 by omega)]
      rw [show (0 : Int32) = nI 0 from rfl, g2]
      exact f1
    · rw [r2 j hj]
      by_cases a : j < i
      · rw [if_pos a, if_pos (by omega), pk_un (by omega)]
      · by_cases b : j < i + 1
        · rw [if_pos b, if_neg a, show j = i by omega, pk_us]
        · rw [if_neg b, if_neg a, pk_un (by omega)]
theorem op_resolve {lab sg : Nat → Int32} {cc ci : Int32} {od : Nat → Int32} {we : Int32} {ro : Nat → Int64} {mn mc : Int32} {ms ml : Nat → Int32} {mk : Int32} {mr : Nat → Int64} (h : Rel lab sg cc ci od we ro mn mc ms ml mk mr) (x1 x2 : Int32) (sd mf : Nat → Int32) :
    ∃ vB vM, F_B_resolve x1 x2 lab sg cc ci od sd we = some vB ∧ F_M_resolve x1 x2 mn mc ms ml mk mf = some vM ∧ vB.1 = vM.1 ∧ Rel vB.2.1 vB.2.2.1 vB.2.2.2.1 vB.2.2.2.2.1 vB.2.2.2.2.2.1 vB.2.2.2.2.2.2.2 ro vM.2.1 vM.2.2.1 vM.2.2.2.1 vM.2.2.2.2.1 vM.2.2.2.2.2.1 mr := by
  obtain ⟨n, z, lb, hn, hz, rfl, rfl, rfl, rfl, l1, l2, sgo, oo, c1, c2⟩ := id h
  have hft := ft_lt n lb
  have hb : F_B_resolve x1 x2 lab sg (nI n) (nI z) od sd we = J_B_resolve_0 x1 x2 lab sg (nI n) (nI z) od sd we := rfl
  have hm : F_M_resolve x1 x2 (nI n) (nI z) ms ml mk mf = J_M_resolve_0 x1 x2 (nI n) (nI z) ms ml mk mf := rfl
  rw [hb, hm]
  unfold J_B_resolve_0 J_M_resolve_0
  rcases isCross hn x1 with ⟨k, k1, k2, k3⟩ | ⟨k1, k2⟩
  · rw [k3, F_isCode hn l1, F_mfault hn l2]
    simp only [Option.bind_some, one_ne, if_false]
    rw [k2, if_neg (nI_pos (show k < 2 ^ 31 by omega)), if_neg (nI_ge k1 (by omega))]
    by_cases q : ft n lb = 0
    · rw [q]
      simp only [if_true, one_ne, if_false]
      rw [if_neg (show ¬ (0 : Int32) < nI 0 by decide)]
      obtain ⟨t, ht⟩ : ∃ t : Nat, t = if x2 = 0 then 1 else 0 := ⟨_, rfl⟩
      have ht2 : t < 2 := by rw [ht]; split <;> omega
      rw [F_closing hn k1 l2 x2 t ht]
      simp only [Option.bind_some]
      have et : (if x2 = 0 then J_B_resolve_30 (nI k) ((4 : Int32) * nI k) (1 : Int32) lab sg (nI n) (nI z) od (stand n lb) we else J_B_resolve_30 (nI k) ((4 : Int32) * nI k) (0 : Int32) lab sg (nI n) (nI z) od (stand n lb) we) = J_B_resolve_30 (nI k) (nI (4 * k)) (nI t) lab sg (nI n) (nI z) od (stand n lb) we := by
        rw [show (4 : Int32) * nI k = nI (4 * k) from pk_mul 4 k]
        by_cases w : x2 = 0
        · rw [if_pos w] at ht ⊢; rw [ht]; rfl
        · rw [if_neg w] at ht ⊢; rw [ht]; rfl
      rw [et]
      have g : ∀ i, i < 4 → lab (4 * k + i) = nI (lb (4 * k + i)) ∧ 1 ≤ lb (4 * k + i) ∧ lb (4 * k + i) < 100 := fun i hi => l1 _ (by omega)
      have gp := g (plc t 0) (by unfold plc; omega)
      have gq := g (plc t 1) (by unfold plc; omega)
      have gu := g (plc t 2) (by unfold plc; omega)
      have gv := g (plc t 3) (by unfold plc; omega)
      have p0 : plc t 0 = t := by unfold plc; omega
      have p1 : plc t 1 = t + 1 := by unfold plc; omega
      have p2 : plc t 2 = t + 2 := by unfold plc; omega
      have p3 : plc t 3 = (t + 3) % 4 := rfl
      generalize ep : lb (4 * k + plc t 0) = p at *
      generalize eq : lb (4 * k + plc t 1) = q' at *
      generalize eu : lb (4 * k + plc t 2) = u at *
      generalize ev : lb (4 * k + plc t 3) = v at *
      have hc2 : cld p q' u v ≤ 2 := by unfold cld; split <;> split <;> omega
      rw [clo_cld, nI_add]
      unfold J_B_resolve_30 J_B_resolve_110 J_B_resolve_122
      have pos0 : nI (4 * k) + nI t = nI (4 * k + plc t 0) := by rw [nI_add, p0]
      have pos1 : nI (4 * k + plc t 0) + (1 : Int32) = nI (4 * k + plc t 1) := by rw [nI_1, p0, p1]; rfl
      have pos2 : nI (4 * k + plc t 0) + (2 : Int32) = nI (4 * k + plc t 2) := by rw [show (2 : Int32) = nI 2 from rfl, nI_add, p0, p2]; rfl
      have pos3 : nI (4 * k) + ((nI t + (3 : Int32)) - (nI t + (3 : Int32)) / (4 : Int32) * (4 : Int32)) = nI (4 * k + plc t 3) := by
        rw [show (3 : Int32) = nI 3 from rfl, nI_add, show nI (t + 3) - nI (t + 3) / (4 : Int32) * (4 : Int32) = nI ((t + 3) % 4) from pk_rem (a := t + 3) (d := 4) (by omega) (by decide) (by decide), nI_add]
        rfl
      have b0 : 4 * k + plc t 0 < 40 := by omega
      have b1 : 4 * k + plc t 1 < 40 := by omega
      have b2 : 4 * k + plc t 2 < 40 := by omega
      have b3 : 4 * k + plc t 3 < 40 := by omega
      rw [pos0, pos1, pos2, pos3, cl32 (show 4 * k + plc t 0 < 2147483648 by omega), cl32 (show 4 * k + plc t 1 < 2147483648 by omega), cl32 (show 4 * k + plc t 2 < 2147483648 by omega), cl32 (show 4 * k + plc t 3 < 2147483648 by omega), gp.1, gq.1, gu.1, gv.1, F_renamed gp.2.2 gq.2.2 gu.2.2, F_renamed gp.2.2 gq.2.2 gv.2.2]
      simp only [Option.bind_some, in32 (n := 40) (show 4 * k + plc t 0 < 2147483648 by omega), in32 (n := 40) (show 4 * k + plc t 1 < 2147483648 by omega), in32 (n := 40) (show 4 * k + plc t 2 < 2147483648 by omega), in32 (n := 40) (show 4 * k + plc t 3 < 2147483648 by omega), if_pos b0, if_pos b1, if_pos b2, if_pos b3]
      have hr := rn_in gp.2 gq.2 gu.2
      have hs := rn_in gp.2 gq.2 gv.2
      obtain ⟨lab1, f1, r1⟩ := F_unite hn gp.2 gq.2 l1
      obtain ⟨lab2, f2, r2⟩ := F_unite hn hr hs r1
      obtain ⟨lab', sg', ml', ms', lb', g1, g2, g3, g4, g5, g6⟩ := carry_up (to := n - 1) (f := k) hn (by omega) k1 (n - 1 - k) k lab2 sg lab2 sg _ (by omega) ⟨r2, r2, fun j hj => ⟨rfl, (sgo j hj).2⟩⟩
      have f3 : F_B_carry (nI k) (nI n - (1 : Int32)) lab2 sg = some (lab', sg') := by
        rw [show nI n - (1 : Int32) = nI (n - 1) from s32 (a := n) (b := 1) (by omega)]
        have : F_B_carry (nI k) (nI (n - 1)) lab2 sg = L_B_carry_20 fu (nI (n - 1)) (nI k) lab' sg' := g5 fu (by have : fu = 5000 := rfl; omega)
        rw [this]
        show J_B_carry_20 (L_B_carry_20 4999) (nI (n - 1)) (nI k) lab' sg' = _
        unfold J_B_carry_20
        rw [if_pos (nI_le (by omega) (by omega))]
      rw [f1]
      simp only [Option.bind_some]
      rw [f2]
      simp only [Option.bind_some]
      rw [f3, F_order]
      simp only [Option.bind_some]
      rw [show nI n - (1 : Int32) = nI (n - 1) from s32 (a := n) (b := 1) (by omega)]
      -- the class's count of what closes
      have ecl : ∀ (A : Int32 → Option (Int32 × (Nat → Int32) × (Nat → Int32) × Int32 × Int32 × (Nat → Int32) × (Nat → Int32) × Int32)), (if nI p = nI q' then (if nI (rn p q' u) = nI (rn p q' v) then A ((1 : Int32) + 1) else A ((1 : Int32) + 0)) else (if nI (rn p q' u) = nI (rn p q' v) then A ((0 : Int32) + 1) else A ((0 : Int32) + 0))) = A (nI (cld p q' u v)) := fun A => by
        simp only [eq32 (show p < 2147483648 by omega) (show q' < 2147483648 by omega), eq32 (show rn p q' u < 2147483648 by omega) (show rn p q' v < 2147483648 by omega)]
        unfold cld
        by_cases w1 : p = q'
        · simp only [if_pos w1]
          by_cases w2 : rn p q' u = rn p q' v
          · simp only [if_pos w2]; rfl
          · simp only [if_neg w2]; rfl
        · simp only [if_neg w1]
          by_cases w2 : rn p q' u = rn p q' v
          · simp only [if_pos w2]; rfl
          · simp only [if_neg w2]; rfl
      have ecl2 := ecl (fun y => if (nI z + y) ≤ (9 : Int32) then some ((1 : Int32), lab', sg', nI (n - 1), nI z + y, idO od, stand n lb, (0 : Int32)) else some ((0 : Int32), lab, sg, nI n, nI z, od, stand n lb, we))
      rw [ecl2, nI_add]
      by_cases w : z + cld p q' u v ≤ 9
      · rw [if_pos (show nI (z + cld p q' u v) ≤ (9 : Int32) from nI_le w (by decide))]
        obtain ⟨mf1, m1, m2⟩ := L_res39 hn k1 l2 x2 (nI z) ms mk fu 4 0 mf (by omega) (by decide) (fun j hj => by omega)
        rw [if_pos (show nI (z + cld p q' u v) ≤ (9 : Int32) from nI_le w (by decide)), show (0 : Int32) = nI 0 from rfl, m2]
        obtain ⟨ml3, ms3, mf3, f4, r4, r5⟩ := L_res78 (n' := n - 1) (k := k) (z := z) (t := t) (p := p) (q := q') (u := u) (v := v) (x2 := x2) (lb := fun j => lb (dl k j)) (by omega) (by omega) ht (by omega) mk m1 ep.symm eq.symm eu.symm ev.symm fu (n - 1 - k) k ms ml (by omega) (Nat.le_refl _) (by have : fu = 5000 := rfl; omega) (fun j hj => by
          unfold dl
          by_cases a : j < 4 * k
          · simp only [if_pos a]; exact l2 j (by omega)
          · simp only [if_neg a]; exact l2 (j + 4) (by omega))
        rw [f4]
        refine ⟨_, _, rfl, rfl, rfl, n - 1, z + cld p q' u v, fun j => rn (rn p q' u) (rn p q' v) (rn p q' (lb (dl k j))), by omega, by omega, rfl, rfl, rfl, rfl, fun j hj => ?_, r4, fun j hj => ?_, ordOK_id (by omega) _, Or.inl rfl, Or.inl rfl⟩
        · show lab' j = _ ∧ _
          rw [g3 j hj]
          unfold dl
          by_cases a : j < 4 * k
          · simp only [if_pos a]; exact r2 j (by omega)
          · simp only [if_neg a]; exact r2 (j + 4) (by omega)
        · show sg' j = ms3 j ∧ (sg' j = 1 ∨ sg' j = -1)
          rw [g4 j hj, r5 j hj]
          by_cases a : j < k
          · simp only [if_pos a]; exact sgo j (by omega)
          · simp only [if_neg a]; exact sgo (j + 1) (by omega)
      · rw [if_neg (show ¬ nI (z + cld p q' u v) ≤ (9 : Int32) from nI_ge (a := 9) (by omega) (by omega)), if_neg (show ¬ nI (z + cld p q' u v) ≤ (9 : Int32) from nI_ge (a := 9) (by omega) (by omega))]
        exact ⟨_, _, rfl, rfl, rfl, h⟩
    · simp only [if_neg q, if_true]
      rw [if_pos (show (0 : Int32) < nI (ft n lb) from nI_lt (a := 0) (by omega) (by omega))]
      exact ⟨_, _, rfl, rfl, rfl, h⟩
  · rw [k2]
    simp only [Option.bind_some, if_true]
    refine ⟨_, (0, nI n, nI z, ms, ml, mk, mf), rfl, ?_, rfl, h⟩
    rcases k1 with k1 | k1
    · rw [if_pos k1]
    · by_cases w : x1 < 0
      · rw [if_pos w]
      · rw [if_neg w, if_pos k1]
