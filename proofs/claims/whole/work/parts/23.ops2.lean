/-! bracket, jones, state -/
theorem work_any {n z : Nat} {lb : Nat → Nat} {lab od : Nat → Int32} {we : Int32} {ro : Nat → Int64} (hn : n ≤ 10) (hz : z ≤ 9) (hl : labs n lab lb) (ho : ordOK n od) (hw : we = 0 ∨ (we = 1 ∧ repL (Pol n z lb) ro)) (sd ta oe fp : Nat → Int32) (sp : Nat → Int64) (qr qs : Nat) :
    ∃ sd' ta' oe' fp' ro' sp' qr' qs', F_B_workOut lab (nI n) (nI z) od sd ta we oe fp ro sp qr qs = some (sd', ta', 1, oe', fp', ro', sp', qr', qs') ∧ repL (Pol n z lb) ro' := by
  rcases hw with rfl | ⟨rfl, hw⟩
  · exact F_work hn hz hl ho sd ta oe fp ro sp qr qs
  · refine ⟨sd, ta, oe, fp, ro, sp, qr, qs, ?_, hw⟩
    show J_B_workOut_0 lab (nI n) (nI z) od sd ta 1 oe fp ro sp qr qs = _
    unfold J_B_workOut_0
    rw [if_neg (by decide)]
theorem know_any {n z : Nat} {lb : Nat → Nat} {ml : Nat → Int32} {mk : Int32} {mr : Nat → Int64} (hn : n ≤ 10) (hz : z ≤ 9) (hl : labs n ml lb) (hw : mk = 0 ∨ (mk = 1 ∧ repM (Pol n z lb) mr)) (mm mt my : Nat → Int32) (mb : Nat → Int64) :
    ∃ mm' mt' mr' my' mb', F_M_know (nI n) (nI z) ml mm mt mk mr my mb = some (mm', mt', 1, mr', my', mb') ∧ repM (Pol n z lb) mr' := by
  rcases hw with rfl | ⟨rfl, hw⟩
  · exact F_know hn hz hl mm mt my mr mb
  · refine ⟨mm, mt, mr, my, mb, ?_, hw⟩
    show J_M_know_0 (nI n) (nI z) ml mm mt 1 mr my mb = _
    unfold J_M_know_0
    rw [if_neg (by decide)]
theorem ltm128 (x : Int32) : (x < (-128 : Int32)) = (x.toInt < -128) := propext Int32.lt_iff_toInt_lt
theorem le128 (x : Int32) : (x ≤ (128 : Int32)) = (x.toInt ≤ 128) := propext Int32.le_iff_toInt_le
theorem ltm1000 (x : Int32) : (x < (-1000 : Int32)) = (x.toInt < -1000) := propext Int32.lt_iff_toInt_lt
theorem le1000 (x : Int32) : (x ≤ (1000 : Int32)) = (x.toInt ≤ 1000) := propext Int32.le_iff_toInt_le
theorem rng32 (x : Int32) : -2147483648 ≤ x.toInt ∧ x.toInt < 2147483648 := by
  have h1 := Int32.le_toInt x
  have h2 := Int32.toInt_lt x
  constructor <;> omega
theorem M_bracket {n z : Nat} {lb : Nat → Nat} {ml : Nat → Int32} {mk : Int32} {mr : Nat → Int64} (hn : n ≤ 10) (hz : z ≤ 9) (hl : labs n ml lb) (hw : mk = 0 ∨ (mk = 1 ∧ repM (Pol n z lb) mr)) (x1 : Int32) (mm mt my : Nat → Int32) (mb : Nat → Int64) :
    ∃ mm' mt' mr' my' mb', F_M_bracket x1 (nI n) (nI z) ml mm mt mk mr my mb = some (Pol n z lb x1.toInt, mm', mt', 1, mr', my', mb') ∧ repM (Pol n z lb) mr' := by
  obtain ⟨mm', mt', mr', my', mb', f1, r1⟩ := know_any hn hz hl hw mm mt my mb
  refine ⟨mm', mt', mr', my', mb', ?_, r1⟩
  show J_M_bracket_0 x1 (nI n) (nI z) ml mm mt mk mr my mb = _
  unfold J_M_bracket_0
  rw [f1]
  simp only [Option.bind_some, ltm128, le128]
  have hs := Pol_supp hn hz lb
  by_cases q : x1.toInt < -128
  · rw [if_pos q, hs _ (by omega)]
  · rw [if_neg q]
    by_cases r : x1.toInt ≤ 128
    · rw [if_pos r]
      have e : (128 : Int32) + x1 = iI (128 + x1.toInt) := by rw [← iI_add, iI_self]; rfl
      rw [e]
      simp (disch := omega) only [in_i, cl_i]
      rw [if_pos (by omega), r1 _ (by omega), show (((128 + x1.toInt).toNat : Nat) : Int) - 128 = x1.toInt by omega]
    · rw [if_neg r, hs _ (by omega)]
theorem op_bracket {lab sg : Nat → Int32} {cc ci : Int32} {od : Nat → Int32} {we : Int32} {ro : Nat → Int64} {mn mc : Int32} {ms ml : Nat → Int32} {mk : Int32} {mr : Nat → Int64} (h : Rel lab sg cc ci od we ro mn mc ms ml mk mr) (x1 : Int32) (sd ta oe fp : Nat → Int32) (sp : Nat → Int64) (qr qs : Nat) (mm mt my : Nat → Int32) (mb : Nat → Int64) :
    ∃ vB vM, F_B_bracket x1 lab cc ci od sd ta we oe fp ro sp qr qs = some vB ∧ F_M_bracket x1 mn mc ml mm mt mk mr my mb = some vM ∧ vB.1 = vM.1 ∧ Rel lab sg cc ci od vB.2.2.2.1 vB.2.2.2.2.2.2.1 mn mc ms ml vM.2.2.2.1 vM.2.2.2.2.1 := by
  obtain ⟨n, z, lb, hn, hz, rfl, rfl, rfl, rfl, l1, l2, sgo, oo, c1, c2⟩ := h
  obtain ⟨sd', ta', oe', fp', ro', sp', qr', qs', f1, r1⟩ := work_any hn hz l1 oo c1 sd ta oe fp sp qr qs
  obtain ⟨mm', mt', mr', my', mb', f2, r2⟩ := M_bracket hn hz l2 c2 x1 mm mt my mb
  have hb : F_B_bracket x1 lab (nI n) (nI z) od sd ta we oe fp ro sp qr qs = J_B_bracket_0 x1 lab (nI n) (nI z) od sd ta we oe fp ro sp qr qs := rfl
  rw [hb]
  unfold J_B_bracket_0
  rw [f1, f2]
  simp only [Option.bind_some]
  rw [F_at r1 (Pol_supp hn hz lb), Int32.toInt_toInt64]
  exact ⟨_, _, rfl, rfl, rfl, n, z, lb, hn, hz, rfl, rfl, rfl, rfl, l1, l2, sgo, oo, Or.inr ⟨rfl, r1⟩, Or.inr ⟨rfl, r2⟩⟩
theorem par21 : ∀ j : Nat, j < 21 → ((iI ((j : Int) - 10) &&& (1 : Int32)) = 0 ↔ (iI ((j : Int) - 10) - iI ((j : Int) - 10) / (2 : Int32) * (2 : Int32)) = 0) := by decide
theorem par_s {s : Int} (h1 : -10 ≤ s) (h2 : s ≤ 10) : ((iI s &&& (1 : Int32)) = 0 ↔ (iI s - iI s / (2 : Int32) * (2 : Int32)) = 0) := by
  have := par21 (s + 10).toNat (by omega)
  rwa [show (((s + 10).toNat : Nat) : Int) - 10 = s by omega] at this
theorem add64 {a b : Int} (a1 : -2147483648 ≤ a) (a2 : a < 2147483648) (b1 : -10 ≤ b) (b2 : b ≤ 10) : ((iI a).toInt64 + (3 : Int64) * (iI b).toInt64).toInt = a + 3 * b := by
  rw [i64_of a1 a2, i64_of (by omega) (by omega), show (3 : Int64) = Int64.ofInt 3 from rfl, ← Int64.ofInt_mul, ← Int64.ofInt_add, Int64.toInt_ofInt_of_le (by omega) (by omega)]
theorem op_jones {lab sg : Nat → Int32} {cc ci : Int32} {od : Nat → Int32} {we : Int32} {ro : Nat → Int64} {mn mc : Int32} {ms ml : Nat → Int32} {mk : Int32} {mr : Nat → Int64} (h : Rel lab sg cc ci od we ro mn mc ms ml mk mr) (x1 : Int32) (sd ta oe fp : Nat → Int32) (sp : Nat → Int64) (qr qs : Nat) (mm mt my : Nat → Int32) (mb : Nat → Int64) :
    ∃ vB vM, F_B_jones x1 lab sg cc ci od sd ta we oe fp ro sp qr qs = some vB ∧ F_M_jones x1 mn mc ms ml mm mt mk mr my mb = some vM ∧ vB.1 = vM.1 ∧ Rel lab sg cc ci od vB.2.2.2.1 vB.2.2.2.2.2.2.1 mn mc ms ml vM.2.2.2.1 vM.2.2.2.2.1 := by
  obtain ⟨n, z, lb, hn, hz, rfl, rfl, rfl, rfl, l1, l2, sgo, oo, c1, c2⟩ := h
  obtain ⟨sd', ta', oe', fp', ro', sp', qr', qs', f1, r1⟩ := work_any hn hz l1 oo c1 sd ta oe fp sp qr qs
  obtain ⟨s, s1, s2, s3, s4⟩ := F_signs hn sgo
  have hs := Pol_supp hn hz lb
  have hb : F_B_jones x1 lab sg (nI n) (nI z) od sd ta we oe fp ro sp qr qs = J_B_jones_0 x1 lab sg (nI n) (nI z) od sd ta we oe fp ro sp qr qs := rfl
  have hm : F_M_jones x1 (nI n) (nI z) ms ml mm mt mk mr my mb = J_M_jones_0 x1 (nI n) (nI z) ms ml mm mt mk mr my mb := rfl
  have hr := rng32 x1
  rw [hb, hm]
  unfold J_B_jones_0 J_M_jones_0
  rw [f1, s3, s4]
  simp only [Option.bind_some, ltm1000, le1000]
  have ex : (x1.toInt64 + (3 : Int64) * (iI s).toInt64).toInt = x1.toInt + 3 * s := by
    have := add64 (a := x1.toInt) (b := s) hr.1 hr.2 s1 s2
    rwa [iI_self] at this
  rw [F_at r1 hs, ex]
  simp only [Option.bind_some]
  have nz : -(0 : Int64) = 0 := rfl
  have hrel : ∀ mk' mr', (mk' = 0 ∨ (mk' = 1 ∧ repM (Pol n z lb) mr')) → Rel lab sg (nI n) (nI z) od 1 ro' (nI n) (nI z) ms ml mk' mr' := fun mk' mr' hk => ⟨n, z, lb, hn, hz, rfl, rfl, rfl, rfl, l1, l2, sgo, oo, Or.inr ⟨rfl, r1⟩, hk⟩
  by_cases q : x1.toInt < -1000
  · rw [if_pos q, hs _ (by omega), nz]
    by_cases w : (iI s &&& (1 : Int32)) = 0
    · rw [if_pos w]; exact ⟨_, _, rfl, rfl, rfl, hrel _ _ c2⟩
    · rw [if_neg w]; exact ⟨_, _, rfl, rfl, rfl, hrel _ _ c2⟩
  · rw [if_neg q]
    by_cases r : x1.toInt ≤ 1000
    · rw [if_pos r]
      have e2 : x1 + (3 : Int32) * iI s = iI (x1.toInt + 3 * s) := by
        rw [← iI_add, ← iI_mul, iI_self]; rfl
      obtain ⟨mm', mt', mr', my', mb', f2, r2⟩ := M_bracket hn hz l2 c2 (x1 + (3 : Int32) * iI s) mm mt my mb
      rw [f2, e2, iI_toInt (by omega) (by omega)]
      simp only [Option.bind_some]
      by_cases w : (iI s &&& (1 : Int32)) = 0
      · rw [if_pos w, if_pos ((par_s s1 s2).mp w)]
        exact ⟨_, _, rfl, rfl, rfl, hrel _ _ (Or.inr ⟨rfl, r2⟩)⟩
      · rw [if_neg w, if_neg (fun v => w ((par_s s1 s2).mpr v))]
        exact ⟨_, _, rfl, rfl, rfl, hrel _ _ (Or.inr ⟨rfl, r2⟩)⟩
    · rw [if_neg r, hs _ (by omega), nz]
      by_cases w : (iI s &&& (1 : Int32)) = 0
      · rw [if_pos w]; exact ⟨_, _, rfl, rfl, rfl, hrel _ _ c2⟩
      · rw [if_neg w]; exact ⟨_, _, rfl, rfl, rfl, hrel _ _ c2⟩
theorem op_state {lab sg : Nat → Int32} {cc ci : Int32} {od : Nat → Int32} {we : Int32} {ro : Nat → Int64} {mn mc : Int32} {ms ml : Nat → Int32} {mk : Int32} {mr : Nat → Int64} (h : Rel lab sg cc ci od we ro mn mc ms ml mk mr) (x1 : Int32) (sd oe fp mm mt : Nat → Int32) :
    ∃ vB vM, F_B_state x1 lab cc ci sd oe fp = some vB ∧ F_M_state x1 mn mc ml mm mt = some vM ∧ vB.1 = vM.1 := by
  obtain ⟨n, z, lb, hn, hz, rfl, rfl, rfl, rfl, l1, l2, sgo, oo, c1, c2⟩ := h
  have hp := two_pow_le hn
  have hft := ft_lt n lb
  have hb : F_B_state x1 lab (nI n) (nI z) sd oe fp = J_B_state_0 x1 lab (nI n) (nI z) sd oe fp := rfl
  have hm : F_M_state x1 (nI n) (nI z) ml mm mt = J_M_state_0 x1 (nI n) (nI z) ml mm mt := rfl
  rw [hb, hm]
  unfold J_B_state_0 J_M_state_0
  rw [sh1 n (by omega), F_isCode hn l1, F_mfault hn l2]
  simp only [Option.bind_some]
  rcases pk_ix x1 (n := 2 ^ n) (by omega) with w | w | ⟨j, w1, w2⟩
  · simp only [if_pos w]
    refine ⟨_, (-1, mm, mt), rfl, ?_, rfl⟩
    split <;> rfl
  · have w0 : ¬ x1 < nI (2 ^ n) := fun r => by
      rw [Int32.lt_iff_toInt_lt] at r
      rw [Int32.le_iff_toInt_le] at w
      omega
    simp only [if_pos w, if_neg w0]
    refine ⟨(-1, sd, oe, fp), (-1, mm, mt), ?_, ?_, rfl⟩
    · split <;> rfl
    · repeat' split
      all_goals rfl
  · rw [w2]
    simp only [if_neg (nI_pos (show j < 2 ^ 31 by omega)), if_neg (nI_ge w1 (by omega)), if_pos (nI_lt w1 (by omega))]
    by_cases q : ft n lb = 0
    · have hc : Cdx n lb := (ft_code l1.lbs).mp q
      rw [q]
      simp only [if_true]
      rw [if_neg (show ¬ (1 : Int32) = 0 by decide), if_neg (show ¬ (0 : Int32) < nI 0 by decide)]
      obtain ⟨oe', fp', f1, r1⟩ := F_follow hn l1 hc oe fp
      obtain ⟨mm', f2, r2⟩ := F_mates hn l2 hc mm
      rw [show (4 : Int32) * nI n = nI (4 * n) from pk_mul 4 n, f1, f2]
      simp only [Option.bind_some]
      have hrep : rep (mate n lb) oe' := fun x hx => by
        have := (mate_live hc x).mp hx
        exact ⟨by omega, r1 x this⟩
      obtain ⟨oe2, f3⟩ := L_state hn (show j < 1024 by omega) lab (stand n lb) fp' (nI z) fu n 0 z (mate n lb) oe' (by omega) (by have : fu = 5000 := rfl; omega) (mate_inv hc) hrep (by
        rw [← List.range_eq_range']
        exact okp_prl hc (fun k hk => List.mem_range.mp hk) List.nodup_range)
      obtain ⟨mt', f4⟩ := F_ways (z := z) (mt := mt) hn (show j < 1024 by omega) hc r2
      rw [← List.range_eq_range'] at f3
      rw [show (0 : Int32) = nI 0 from rfl, f3, f4]
      exact ⟨_, _, rfl, rfl, rfl⟩
    · simp only [if_neg q, if_true]
      rw [if_pos (show (0 : Int32) < nI (ft n lb) from nI_lt (a := 0) (by omega) (by omega))]
      exact ⟨_, _, rfl, rfl, rfl⟩
/-! span -/
theorem L_span {mr : Nat → Int64} (x1 x2 mn mc : Int32) (ms ml mm mt : Nat → Int32) (mk : Int32) (my : Nat → Int32) (mb : Nat → Int64) : ∀ (m i : Nat) (x3 x4 x5 : Int32), i ≤ 257 → 257 < m + i →
    ((x5 = 1 ∧ x3 = 0 ∧ x4 = 0 ∧ ∀ j, j < i → mr j = 0) ∨ (x5 = 0 ∧ ∃ a b, a < i ∧ b < i ∧ x3 = iI ((a : Int) - 128) ∧ x4 = iI ((b : Int) - 128) ∧ mr a ≠ 0 ∧ mr b ≠ 0 ∧ (∀ j, j < a → mr j = 0) ∧ ∀ j, b < j → j < i → mr j = 0)) →
    ((∀ j, j < 257 → mr j = 0) ∧ L_M_span_16 m x1 x2 x3 x4 x5 (iI ((i : Int) - 128)) mn mc ms ml mm mt mk mr my mb = J_M_span_83 x2 0 0 mn mc ms ml mm mt mk mr my mb) ∨
    ∃ a b, a < 257 ∧ b < 257 ∧ mr a ≠ 0 ∧ mr b ≠ 0 ∧ (∀ j, j < a → mr j = 0) ∧ (∀ j, b < j → j < 257 → mr j = 0) ∧ L_M_span_16 m x1 x2 x3 x4 x5 (iI ((i : Int) - 128)) mn mc ms ml mm mt mk mr my mb = (if x1 = 0 then J_M_span_83 x2 (iI ((a : Int) - 128)) (iI ((b : Int) - 128)) mn mc ms ml mm mt mk mr my mb else (Option.bind (F_M_signs mn ms) (fun v_4 => J_M_span_84 x2 (iI ((a : Int) - 128)) (iI ((b : Int) - 128)) ((3 : Int32) * v_4) mn mc ms ml mm mt mk mr my mb)))
  | 0, i, x3, x4, x5, hi, hm, _ => by omega
  | m + 1, i, x3, x4, x5, hi, hm, h => by
    have e : L_M_span_16 (m + 1) x1 x2 x3 x4 x5 (iI ((i : Int) - 128)) mn mc ms ml mm mt mk mr my mb = J_M_span_16 (L_M_span_16 m) x1 x2 x3 x4 x5 (iI ((i : Int) - 128)) mn mc ms ml mm mt mk mr my mb := rfl
    rw [e]
    unfold J_M_span_16 J_M_span_51
    rw [show (128 : Int32) + iI ((i : Int) - 128) = iI (i : Int) by rw [i128, iI_add]; congr 1; omega, show iI ((i : Int) - 128) + 1 = iI (((i + 1 : Nat) : Int) - 128) by rw [i1, iI_add]; congr 1; omega]
    simp (disch := omega) only [i128, lt_i, in_i, cl_i, lcmp0]
    by_cases q : i < 257
    · rw [if_neg (by omega), if_pos (by omega), show ((i : Int)).toNat = i by omega]
      by_cases w : mr i = 0
      · rw [if_pos w]
        refine L_span x1 x2 mn mc ms ml mm mt mk my mb m (i + 1) x3 x4 x5 (by omega) (by omega) ?_
        rcases h with ⟨h1, h2, h3, h4⟩ | ⟨h1, a, b, h2, h3, h4, h5, h6, h7, h8, h9⟩
        · refine Or.inl ⟨h1, h2, h3, fun j hj => ?_⟩
          by_cases v : j = i
          · subst v; exact w
          · exact h4 j (by omega)
        · refine Or.inr ⟨h1, a, b, by omega, by omega, h4, h5, h6, h7, h8, fun j a1 a2 => ?_⟩
          by_cases v : j = i
          · subst v; exact w
          · exact h9 j a1 (by omega)
      · rw [if_neg w]
        rcases h with ⟨h1, h2, h3, h4⟩ | ⟨h1, a, b, h2, h3, h4, h5, h6, h7, h8, h9⟩
        · rw [if_neg (by rw [h1]; decide)]
          exact L_span x1 x2 mn mc ms ml mm mt mk my mb m (i + 1) _ _ _ (by omega) (by omega) (Or.inr ⟨rfl, i, i, by omega, by omega, rfl, rfl, w, w, h4, fun j a1 a2 => by omega⟩)
        · rw [if_pos h1]
          exact L_span x1 x2 mn mc ms ml mm mt mk my mb m (i + 1) _ _ _ (by omega) (by omega) (Or.inr ⟨rfl, a, i, by omega, by omega, h4, rfl, h6, w, h8, fun j a1 a2 => by omega⟩)
    · obtain rfl : i = 257 := by omega
      rw [if_pos (by omega)]
      rcases h with ⟨h1, h2, h3, h4⟩ | ⟨h1, a, b, h2, h3, h4, h5, h6, h7, h8, h9⟩
      · refine Or.inl ⟨h4, ?_⟩
        rw [h1, h2, h3, if_neg (show ¬ (1 : Int32) = 0 by decide)]
        split <;> rfl
      · refine Or.inr ⟨a, b, h2, h3, h6, h7, h8, h9, ?_⟩
        rw [h1, h4, h5]
        simp only [if_true]
theorem rep_zero {f : Int → Int64} {mr : Nat → Int64} (hr : repM f mr) (hs : suppL f) : (∀ j, j < 257 → mr j = 0) ↔ ∀ x, f x = 0 := by
  refine ⟨fun h x => ?_, fun h j hj => by rw [hr j (by omega), h]⟩
  by_cases q : x < -66 ∨ 66 < x
  · exact hs x q
  · have := hr (x + 128).toNat (by omega)
    rw [h _ (by omega), show (((x + 128).toNat : Nat) : Int) - 128 = x by omega] at this
    exact this.symm
theorem repL_zero {f : Int → Int64} {ro : Nat → Int64} (hr : repL f ro) (hs : suppL f) : (∀ j, j < 133 → ro j = 0) ↔ ∀ x, f x = 0 := by
  refine ⟨fun h x => ?_, fun h j hj => by rw [hr j hj, h]⟩
  by_cases q : x < -66 ∨ 66 < x
  · exact hs x q
  · have := hr (x + 66).toNat (by omega)
    rw [h _ (by omega), show (((x + 66).toNat : Nat) : Int) - 66 = x by omega] at this
    exact this.symm
theorem op_span {lab sg : Nat → Int32} {cc ci : Int32} {od : Nat → Int32} {we : Int32} {ro : Nat → Int64} {mn mc : Int32} {ms ml : Nat → Int32} {mk : Int32} {mr : Nat → Int64} (h : Rel lab sg cc ci od we ro mn mc ms ml mk mr) (x1 x2 : Int32) (sd ta oe fp : Nat → Int32) (sp : Nat → Int64) (qr qs : Nat) (mm mt my : Nat → Int32) (mb : Nat → Int64) :
    ∃ vB vM, F_B_span x1 x2 lab sg cc ci od sd ta we oe fp ro sp qr qs = some vB ∧ F_M_span x1 x2 mn mc ms ml mm mt mk mr my mb = some vM ∧ vB.1 = vM.1 ∧ Rel lab sg cc ci od vB.2.2.2.1 vB.2.2.2.2.2.2.1 mn mc ms ml vM.2.2.2.1 vM.2.2.2.2.1 := by
  obtain ⟨n, z, lb, hn, hz, rfl, rfl, rfl, rfl, l1, l2, sgo, oo, c1, c2⟩ := h
  obtain ⟨sd', ta', oe', fp', ro', sp', qr', qs', f1, r1⟩ := work_any hn hz l1 oo c1 sd ta oe fp sp qr qs
  obtain ⟨mm', mt', mr', my', mb', f2, r2⟩ := know_any hn hz l2 c2 mm mt my mb
  obtain ⟨s, s1, s2, s3, s4⟩ := F_signs hn sgo
  have hs := Pol_supp hn hz lb
  have hb : F_B_span x1 x2 lab sg (nI n) (nI z) od sd ta we oe fp ro sp qr qs = J_B_span_0 x1 x2 lab sg (nI n) (nI z) od sd ta we oe fp ro sp qr qs := rfl
  have hm : F_M_span x1 x2 (nI n) (nI z) ms ml mm mt mk mr my mb = J_M_span_0 x1 x2 (nI n) (nI z) ms ml mm mt mk mr my mb := rfl
  have hrel : Rel lab sg (nI n) (nI z) od 1 ro' (nI n) (nI z) ms ml 1 mr' := ⟨n, z, lb, hn, hz, rfl, rfl, rfl, rfl, l1, l2, sgo, oo, Or.inr ⟨rfl, r1⟩, Or.inr ⟨rfl, r2⟩⟩
  rw [hb, hm]
  unfold J_B_span_0 J_M_span_0
  rw [f1, f2]
  simp only [Option.bind_some]
  have hl := L_span (mr := mr') x1 x2 (nI n) (nI z) ms ml mm' mt' 1 my' mb' fu 0 0 0 1 (by omega) (by decide) (Or.inl ⟨rfl, rfl, rfl, fun j hj => by omega⟩)
  rw [show iI (((0 : Nat) : Int) - 128) = (-128 : Int32) from rfl] at hl
  rcases hl with ⟨z1, z2⟩ | ⟨a, b, a1, b1, a2, b2, a3, b3, z2⟩
  · have hz0 := (rep_zero r2 hs).mp z1
    rcases F_isZero ro' with ⟨y1, y2⟩ | ⟨⟨j, y1, y3⟩, y2⟩
    · rw [y2, z2]
      simp only [Option.bind_some]
      rw [if_neg (show ¬ (1 : Int32) = 0 by decide)]
      unfold J_M_span_83 J_M_span_84
      refine ⟨_, (0, mm', mt', 1, mr', my', mb'), rfl, ?_, rfl, hrel⟩
      split <;> rfl
    · exact absurd ((repL_zero r1 hs).mpr hz0 j y1) y3
  · have hnz : ¬ ∀ x, Pol n z lb x = 0 := fun v => a2 ((rep_zero r2 hs).mpr v a a1)
    rcases F_isZero ro' with ⟨y1, y2⟩ | ⟨-, y2⟩
    · exact absurd ((repL_zero r1 hs).mp y1) hnz
    · have la : F_P_least ro' = some (iI ((a : Int) - 128)) := by
        rcases F_least ro' with ⟨u1, u2⟩ | ⟨j, u1, u2, u3, u4⟩
        · exact absurd ((repL_zero r1 hs).mp u1) hnz
        · rw [u4]
          have pa : Pol n z lb ((a : Int) - 128) ≠ 0 := by rw [← r2 a (by omega)]; exact a2
          have pj : Pol n z lb ((j : Int) - 66) ≠ 0 := by rw [← r1 j u1]; exact u2
          have ra : ¬ ((a : Int) - 128 < -66 ∨ 66 < (a : Int) - 128) := fun v => pa (hs _ v)
          rcases Int.lt_trichotomy ((j : Int) - 66) ((a : Int) - 128) with v | v | v
          · exfalso
            have := a3 (j + 62) (by omega)
            rw [r2 _ (by omega), show ((j + 62 : Nat) : Int) - 128 = (j : Int) - 66 by omega] at this
            exact pj this
          · rw [v]
          · exfalso
            have := u3 ((a : Int) - 62).toNat (by omega)
            rw [r1 _ (by omega), show ((((a : Int) - 62).toNat : Nat) : Int) - 66 = (a : Int) - 128 by omega] at this
            exact pa this
      have ga : F_P_greatest ro' = some (iI ((b : Int) - 128)) := by
        rcases F_greatest ro' with ⟨u1, u2⟩ | ⟨j, u1, u2, u3, u4⟩
        · exact absurd ((repL_zero r1 hs).mp u1) hnz
        · rw [u4]
          have pb : Pol n z lb ((b : Int) - 128) ≠ 0 := by rw [← r2 b (by omega)]; exact b2
          have pj : Pol n z lb ((j : Int) - 66) ≠ 0 := by rw [← r1 j u1]; exact u2
          have rb : ¬ ((b : Int) - 128 < -66 ∨ 66 < (b : Int) - 128) := fun v => pb (hs _ v)
          rcases Int.lt_trichotomy ((j : Int) - 66) ((b : Int) - 128) with v | v | v
          · exfalso
            have := u3 ((b : Int) - 62).toNat (by omega) (by omega)
            rw [r1 _ (by omega), show ((((b : Int) - 62).toNat : Nat) : Int) - 66 = (b : Int) - 128 by omega] at this
            exact pb this
          · rw [v]
          · exfalso
            have := b3 (j + 62) (by omega) (by omega)
            rw [r2 _ (by omega), show ((j + 62 : Nat) : Int) - 128 = (j : Int) - 66 by omega] at this
            exact pj this
      rw [y2, z2, la, ga, s4]
      simp only [Option.bind_some, if_true]
      unfold J_M_span_83 J_M_span_84 J_B_span_37
      rw [s3]
      simp only [Option.bind_some]
      by_cases w2 : x2 = 0
      · simp only [if_pos w2]
        by_cases w1 : x1 = 0
        · simp only [if_pos w1]
          exact ⟨_, _, rfl, rfl, (Int32.sub_zero _).symm, hrel⟩
        · simp only [if_neg w1]
          exact ⟨_, _, rfl, rfl, rfl, hrel⟩
      · simp only [if_neg w2]
        by_cases w1 : x1 = 0
        · simp only [if_pos w1]
          exact ⟨_, _, rfl, rfl, (Int32.sub_zero _).symm, hrel⟩
        · simp only [if_neg w1]
          exact ⟨_, _, rfl, rfl, rfl, hrel⟩
