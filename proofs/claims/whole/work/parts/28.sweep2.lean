/-! sweep: the loops -/
theorem L_most {n : Nat} {lb : Nat → Nat} {lab sd go : Nat → Int32} (hn : n ≤ 10) (hl : labs n lab lb) {ov : Nat → Bool} (hs : ∀ j, 1 ≤ j → sd j = nI (sc n lb (pl ov) j)) (hg : ∀ j, j < n → go j = if ov j = true then 1 else 0) : ∀ (m r i : Nat), i + r = n → r < m → L_B_mostJoined_6 m (nI (sel n lb ov 0 i).1) (iI (sel n lb ov 0 i).2) (nI i) lab (nI n) sd go = some (nI (sel n lb ov 0 n).1)
  | 0, r, i, _, h2 => by omega
  | m + 1, 0, i, h1, h2 => by
    show J_B_mostJoined_6 (L_B_mostJoined_6 m) (nI (sel n lb ov 0 i).1) (iI (sel n lb ov 0 i).2) (nI i) lab (nI n) sd go = _
    unfold J_B_mostJoined_6
    rw [if_pos (nI_le (by omega) (by omega)), show i = n by omega]
  | m + 1, r + 1, i, h1, h2 => by
    have ih := L_most hn hl hs hg m r (i + 1) (by omega) (by omega)
    have ht := tj_le n lb ov i 4
    obtain ⟨-, b1, b2, -⟩ := sel_spec n lb ov 0 0 i
    show J_B_mostJoined_6 (L_B_mostJoined_6 m) (nI (sel n lb ov 0 i).1) (iI (sel n lb ov 0 i).2) (nI i) lab (nI n) sd go = _
    unfold J_B_mostJoined_6 J_B_mostJoined_32
    rw [if_neg (nI_ge (by omega) (by omega)), if_pos (inb_nI (show i < 10 by omega) (by decide)), cl32 (show i < 2147483648 by omega), hg i (by omega), F_places hn (by omega) hl hs]
    simp only [Option.bind_some, nI_1]
    simp only [sel] at ih
    by_cases v : ov i = true
    · simp only [if_pos v, one_ne, if_false] at ih ⊢
      rw [if_pos b1] at ih
      rw [im1, if_pos (by rw [le_i (by omega) (by omega) (by omega) (by omega)]; exact b1)]
      exact ih
    · simp only [if_neg v, if_true] at ih ⊢
      rw [nI_iI (tj n lb ov i 4)]
      by_cases q : (tj n lb ov i 4 : Int) ≤ (sel n lb ov 0 i).2
      · rw [if_pos q] at ih
        rw [if_pos (by rw [le_i (by omega) (by omega) (by omega) (by omega)]; exact q)]
        exact ih
      · rw [if_neg q] at ih
        rw [if_neg (by rw [le_i (by omega) (by omega) (by omega) (by omega)]; exact q)]
        exact ih
theorem F_most {n : Nat} {lb : Nat → Nat} {lab sd go : Nat → Int32} (hn : n ≤ 10) (hl : labs n lab lb) {ov : Nat → Bool} (hs : ∀ j, 1 ≤ j → sd j = nI (sc n lb (pl ov) j)) (hg : ∀ j, j < n → go j = if ov j = true then 1 else 0) : F_B_mostJoined lab (nI n) sd go = some (nI (sel n lb ov 0 n).1) :=
  L_most hn hl hs hg fu n 0 (by omega) (by have : fu = 5000 := rfl; omega)
theorem L_sel94 {n d : Nat} {lb : Nat → Nat} {ml mm mo : Nat → Int32} (hn : n ≤ 10) (hl : labs n ml lb) {ov : Nat → Bool} (ho : ∀ k, k < n → mo k = if ov k = true then 1 else 0) (rec55 : Int32 → Int32 → Int32 → Int32 → (Nat → Int32) → (Nat → Int32) → (Nat → Int32) → Option (Int32 × (Nat → Int32) × (Nat → Int32))) (x2 x4 : Int32) : ∀ (m r i : Nat), i + r = n → r < m → L_M_sweep_94 rec55 m x2 (nI (sel n lb ov d i).1) x4 (iI (sel n lb ov d i).2) (nI i) (nI n) ml mm mo = rec55 x2 (nI (sel n lb ov d n).1) (x4 + 1) (nI n) ml mm mo
  | 0, r, i, _, h2 => by omega
  | m + 1, 0, i, h1, h2 => by
    show J_M_sweep_94 rec55 (L_M_sweep_94 rec55 m) x2 (nI (sel n lb ov d i).1) x4 (iI (sel n lb ov d i).2) (nI i) (nI n) ml mm mo = _
    unfold J_M_sweep_94
    rw [if_pos (nI_le (by omega) (by omega)), show i = n by omega]
  | m + 1, r + 1, i, h1, h2 => by
    have ih := L_sel94 (d := d) (mm := mm) hn hl ho rec55 x2 x4 m r (i + 1) (by omega) (by omega)
    have ht := tj_le n lb ov i 4
    obtain ⟨-, b1, b2, -⟩ := sel_spec n lb ov d d i
    show J_M_sweep_94 rec55 (L_M_sweep_94 rec55 m) x2 (nI (sel n lb ov d i).1) x4 (iI (sel n lb ov d i).2) (nI i) (nI n) ml mm mo = _
    unfold J_M_sweep_94 J_M_sweep_123
    rw [if_neg (nI_ge (by omega) (by omega)), if_pos (inb_nI (show i < 10 by omega) (by decide)), cl32 (show i < 2147483648 by omega), ho i (by omega), F_touch hn (by omega) hl ho]
    simp only [Option.bind_some, nI_1]
    simp only [sel] at ih
    by_cases v : ov i = true
    · simp only [if_pos v, one_ne, if_false] at ih ⊢
      rw [if_pos b1] at ih
      rw [im1, if_pos (by rw [le_i (by omega) (by omega) (by omega) (by omega)]; exact b1)]
      exact ih
    · simp only [if_neg v, if_true] at ih ⊢
      rw [nI_iI (tj n lb ov i 4)]
      by_cases q : (tj n lb ov i 4 : Int) ≤ (sel n lb ov d i).2
      · rw [if_pos q] at ih
        rw [if_pos (by rw [le_i (by omega) (by omega) (by omega) (by omega)]; exact q)]
        exact ih
      · rw [if_neg q] at ih
        rw [if_neg (by rw [le_i (by omega) (by omega) (by omega) (by omega)]; exact q)]
        exact ih
theorem L_open {n : Nat} {lb : Nat → Nat} {mm mo : Nat → Int32} (hn : n ≤ 10) (hc : Cdx n lb) (hmm : ∀ p, p < 4 * n → mm p = nI (mate n lb p)) {ov : Nat → Bool} (ho : ∀ k, k < n → mo k = if ov k = true then 1 else 0) : ∀ (m r i : Nat), i + r = 4 * n → r < m → L_M_open_4 m (iI (isum (fun a => if pl ov a = true ∧ ¬ pl ov (mate n lb a) = true then 1 else 0) i)) (nI i) (nI n) mm mo = some (iI (oc n lb (pl ov)))
  | 0, r, i, _, h2 => by omega
  | m + 1, 0, i, h1, h2 => by
    show J_M_open_4 (L_M_open_4 m) _ (nI i) (nI n) mm mo = _
    unfold J_M_open_4
    rw [show (4 : Int32) * nI n = nI (4 * n) from pk_mul 4 n, if_pos (nI_le (by omega) (by omega)), show i = 4 * n by omega]
    rfl
  | m + 1, r + 1, i, h1, h2 => by
    have hi : i < 4 * n := by omega
    have m1 := (mate_spec hc hi).1
    have ih := L_open hn hc hmm ho m r (i + 1) (by omega) (by omega)
    show J_M_open_4 (L_M_open_4 m) _ (nI i) (nI n) mm mo = _
    unfold J_M_open_4
    rw [show (4 : Int32) * nI n = nI (4 * n) from pk_mul 4 n, if_neg (nI_ge (by omega) (by omega)), cl32 (show i < 2147483648 by omega), hmm i hi, show nI i / (4 : Int32) = nI (i / 4) from pk_div (a := i) (d := 4) (by omega) (by decide) (by decide), show nI (mate n lb i) / (4 : Int32) = nI (mate n lb i / 4) from pk_div (a := mate n lb i) (d := 4) (by omega) (by decide) (by decide), cl32 (show i / 4 < 2147483648 by omega), cl32 (show mate n lb i / 4 < 2147483648 by omega), ho (i / 4) (by omega), ho (mate n lb i / 4) (by omega)]
    simp only [in32 (n := 40) (show i < 2147483648 by omega), in32 (n := 10) (show i / 4 < 2147483648 by omega), in32 (n := 10) (show mate n lb i / 4 < 2147483648 by omega), if_pos (show i < 40 by omega), if_pos (show i / 4 < 10 by omega), if_pos (show mate n lb i / 4 < 10 by omega), nI_1]
    simp only [isum] at ih
    have e1 : pl ov i = ov (i / 4) := rfl
    have e2 : pl ov (mate n lb i) = ov (mate n lb i / 4) := rfl
    by_cases v : ov (i / 4) = true
    · by_cases u : ov (mate n lb i / 4) = true
      · simp only [if_pos v, if_pos u, one_ne, if_false]
        rw [if_neg (by rw [e1, e2]; exact fun q => q.2 u)] at ih
        rw [i0, iI_add]
        exact ih
      · simp only [if_pos v, if_neg u, one_ne, if_false, if_true]
        rw [if_pos (by rw [e1, e2]; exact ⟨v, u⟩)] at ih
        rw [i1, iI_add]
        exact ih
    · simp only [if_neg v, if_true]
      rw [if_neg (by rw [e1]; exact fun q => v q.1)] at ih
      rw [i0, iI_add]
      exact ih
theorem F_open {n : Nat} {lb : Nat → Nat} {mm mo : Nat → Int32} (hn : n ≤ 10) (hc : Cdx n lb) (hmm : ∀ p, p < 4 * n → mm p = nI (mate n lb p)) {ov : Nat → Bool} (ho : ∀ k, k < n → mo k = if ov k = true then 1 else 0) : F_M_open (nI n) mm mo = some (iI (oc n lb (pl ov))) :=
  L_open hn hc hmm ho fu (4 * n) 0 (by omega) (by have : fu = 5000 := rfl; omega)
theorem oc_rng {n : Nat} (hn : n ≤ 10) (lb : Nat → Nat) (O : Nat → Bool) : 0 ≤ oc n lb O ∧ oc n lb O ≤ 40 := by
  have : 0 ≤ oc n lb O ∧ oc n lb O ≤ (4 * n : Nat) := isum_le (fun i _ => by split <;> omega)
  omega
theorem ordL_map {n : Nat} {od : Nat → Int32} {κ : Nat → Nat} (h : ∀ i, i < n → od i = nI (κ i)) : ∀ (r s : Nat), s + r = n → ordL od s ((List.range' s r).map κ)
  | 0, s, _ => trivial
  | r + 1, s, hs => by
    rw [List.range'_succ, List.map_cons]
    exact ⟨h s (by omega), ordL_map h r (s + 1) (by omega)⟩
def ovc (ov : Nat → Bool) (j : Nat) : Int := if ov j = true then 1 else 0
theorem ovc_rng (ov : Nat → Bool) (j : Nat) : 0 ≤ ovc ov j ∧ ovc ov j ≤ 1 := by
  unfold ovc
  split <;> omega
theorem sweep_main {n k : Nat} {lb : Nat → Nat} {lab ml mm : Nat → Int32} (hn : n ≤ 10) (l1 : labs n lab lb) (l2 : labs n ml lb) (hc : Cdx n lb) (hmm : ∀ p, p < 4 * n → mm p = nI (mate n lb p)) : ∀ (r s : Nat) (ov : Nat → Bool) (κ : Nat → Nat) (now : Nat) (most : Int) (od sd go mo : Nat → Int32), s + r = n → isum (ovc ov) n = s → (∀ i, i < s → od i = nI (κ i) ∧ κ i < n ∧ ov (κ i) = true) → (∀ i j, i < s → j < s → κ i = κ j → i = j) → (∀ j, 1 ≤ j → sd j = nI (sc n lb (pl ov) j)) → (∀ j, j < n → go j = if ov j = true then 1 else 0) → (∀ j, j < n → mo j = if ov j = true then 1 else 0) → 0 ≤ most → most ≤ 40 → (0 < r → now < n ∧ ov now = false ∧ (s = 0 → now = k) ∧ (s ≠ 0 → now = (sel n lb ov 0 n).1)) →
    ∃ res od' sd' go' mo', (∀ m, r < m → ∀ we, L_B_sweep_28 m (nI k) (iI (oc n lb (pl ov))) (iI most) (nI s) lab (nI n) od sd go we = some (iI res, od', sd', go', 0)) ∧ (∀ m, r < m → L_M_sweep_55 m (iI most) (nI now) (nI s) (nI n) ml mm mo = some (iI res, mm, mo')) ∧ ordOK n od'
  | 0, s, ov, κ, now, most, od, sd, go, mo, h1, h2, h3, h4, h5, h6, h7, h8, h9, h10 => by
    refine ⟨most, od, sd, go, mo, fun m hm we => ?_, fun m hm => ?_, (List.range n).map κ, ?_, ?_⟩
    · match m, hm with
      | m + 1, hm =>
        show J_B_sweep_28 (L_B_sweep_28 m) (nI k) _ (iI most) (nI s) lab (nI n) od sd go we = _
        unfold J_B_sweep_28
        rw [if_pos (nI_le (by omega) (by omega))]
    · match m, hm with
      | m + 1, hm =>
        show J_M_sweep_55 (L_M_sweep_55 m) (iI most) (nI now) (nI s) (nI n) ml mm mo = _
        unfold J_M_sweep_55
        rw [if_pos (nI_le (by omega) (by omega))]
    · have hs : s = n := by omega
      subst hs
      have hnd : ((List.range s).map κ).Nodup := by
        rw [List.nodup_iff_pairwise_ne, List.pairwise_map]
        have := List.nodup_range (n := s)
        rw [List.nodup_iff_pairwise_ne] at this
        exact List.Pairwise.imp_of_mem (fun ha hb hne q => hne (h4 _ _ (List.mem_range.mp ha) (List.mem_range.mp hb) q)) this
      -- every crossing has been gone over: count the images
      refine (List.perm_ext_iff_of_nodup hnd List.nodup_range).mpr (fun a => ⟨fun ha => ?_, fun ha => ?_⟩)
      · obtain ⟨i, hi, rfl⟩ := List.mem_map.mp ha
        exact List.mem_range.mpr (h3 i (List.mem_range.mp hi)).2.1
      · by_cases q : a ∈ (List.range s).map κ
        · exact q
        · exfalso
          have hlen : ((List.range s).map κ).length = s := by simp
          have h5 : (a :: (List.range s).map κ).Nodup := List.nodup_cons.mpr ⟨q, hnd⟩
          have h6 : ∀ x ∈ a :: (List.range s).map κ, x ∈ List.range s := fun x hx => by
            rcases List.mem_cons.mp hx with rfl | hx
            · exact ha
            · obtain ⟨i, hi, rfl⟩ := List.mem_map.mp hx
              exact List.mem_range.mpr (h3 i (List.mem_range.mp hi)).2.1
          have h7 := List.Nodup.length_le_of_subset h5 h6
          rw [List.length_cons, hlen, List.length_range] at h7
          omega
    · rw [List.range_eq_range']
      exact ordL_map (fun i hi => (h3 i (by omega)).1) n 0 (by omega)
  | r + 1, s, ov, κ, now, most, od, sd, go, mo, h1, h2, h3, h4, h5, h6, h7, h8, h9, h10 => by
    obtain ⟨n1, n2, n3, n4⟩ := h10 (by omega)
    obtain ⟨sd1, f1, r1⟩ := F_goOver hn n1 l1 hc go n2 h5
    have o0 := oc_rng hn lb (pl ov)
    have o1 := oc_rng hn lb (pl (ad ov now))
    have hmo : ∀ j, j < n → (upd mo now 1) j = if (ad ov now) j = true then 1 else 0 := fun j hj => by
      by_cases w : j = now
      · subst w; rw [pk_us]; simp [ad]
      · rw [pk_un w, h7 j hj]; simp [ad, w]
    have hgo : ∀ j, j < n → (upd go now 1) j = if (ad ov now) j = true then 1 else 0 := fun j hj => by
      by_cases w : j = now
      · subst w; rw [pk_us]; simp [ad]
      · rw [pk_un w, h6 j hj]; simp [ad, w]
    have hcnt : isum (ovc (ad ov now)) n = (s + 1 : Nat) := by
      rw [isum_one (f := ovc ov) n1 (fun i _ hne => by simp [ovc, ad, hne]), h2]
      simp [ovc, ad, n2]
    have hnext : 0 < r → (sel n lb (ad ov now) now n).1 < n ∧ (ad ov now) (sel n lb (ad ov now) now n).1 = false ∧ (s + 1 = 0 → (sel n lb (ad ov now) now n).1 = k) ∧ (s + 1 ≠ 0 → (sel n lb (ad ov now) now n).1 = (sel n lb (ad ov now) 0 n).1) := fun hr => by
      obtain ⟨-, -, -, q⟩ := sel_spec n lb (ad ov now) now 0 n
      rcases q with ⟨q1, q2, q3⟩ | ⟨q1, q2, q3, q4, q5⟩
      · exfalso
        have := isum_ones (f := ovc (ad ov now)) (m := n) (fun i hi => by simp [ovc, q1 i hi])
        omega
      · exact ⟨q4, q5, fun w => by omega, fun _ => q3⟩
    obtain ⟨res, od', sd', go', mo', g1, g2, g3⟩ := sweep_main hn l1 l2 hc hmm r (s + 1) (ad ov now) (fun i => if i = s then now else κ i) (sel n lb (ad ov now) now n).1 (if most < oc n lb (pl (ad ov now)) then oc n lb (pl (ad ov now)) else most) (upd od s (nI now)) sd1 (upd go now 1) (upd mo now 1) (by omega) hcnt (fun i hi => by
      by_cases w : i = s
      · subst w; rw [pk_us]; simp only [if_true]; exact ⟨trivial, n1, by simp [ad]⟩
      · obtain ⟨a1, a2, a3⟩ := h3 i (by omega)
        rw [pk_un w]
        simp only [if_neg w]
        refine ⟨a1, a2, ?_⟩
        unfold ad
        split
        · rfl
        · exact a3) (fun i j hi hj q => by
      by_cases w : i = s
      · by_cases v : j = s
        · omega
        · exfalso
          simp only [if_pos w, if_neg v] at q
          have := (h3 j (by omega)).2.2
          rw [← q, n2] at this
          exact Bool.noConfusion this
      · by_cases v : j = s
        · exfalso
          simp only [if_neg w, if_pos v] at q
          have := (h3 i (by omega)).2.2
          rw [q, n2] at this
          exact Bool.noConfusion this
        · simp only [if_neg w, if_neg v] at q
          exact h4 i j (by omega) (by omega) q) r1 hgo hmo (by split <;> omega) (by split <;> omega) hnext
    refine ⟨res, od', sd', go', mo', fun m hm we => ?_, fun m hm => ?_, g3⟩
    · match m, hm with
      | m + 1, hm =>
        have j50 : J_B_sweep_50 (L_B_sweep_28 m) (nI k) (iI (oc n lb (pl ov))) (iI most) (nI s) (nI now) lab (nI n) od sd go we = some (iI res, od', sd', go', 0) := by
          unfold J_B_sweep_50
          rw [f1]
          simp only [Option.bind_some]
          rw [if_pos (inb_nI (show s < 10 by omega) (by decide)), cl32 (show s < 2147483648 by omega), iI_add, show oc n lb (pl ov) + (oc n lb (pl (ad ov now)) - oc n lb (pl ov)) = oc n lb (pl (ad ov now)) by omega, show nI s + 1 = nI (s + 1) from nI_1 _]
          have em : (if iI most < iI (oc n lb (pl (ad ov now))) then iI (oc n lb (pl (ad ov now))) else iI most) = iI (if most < oc n lb (pl (ad ov now)) then oc n lb (pl (ad ov now)) else most) := by
            simp only [lt_i (show -2147483648 ≤ most by omega) (show most < 2147483648 by omega) (show -2147483648 ≤ oc n lb (pl (ad ov now)) by omega) (show oc n lb (pl (ad ov now)) < 2147483648 by omega)]
            split <;> rfl
          rw [em]
          exact g1 m (by omega) we
        show J_B_sweep_28 (L_B_sweep_28 m) (nI k) _ (iI most) (nI s) lab (nI n) od sd go we = _
        unfold J_B_sweep_28
        rw [if_neg (nI_ge (by omega) (by omega))]
        by_cases w : s = 0
        · rw [if_pos (show nI s = 0 by rw [w]; rfl)]
          have := n3 w
          rw [this] at j50
          exact j50
        · rw [if_neg (show ¬ nI s = 0 from nI_ne0 (by omega) (by omega)), F_most hn l1 h5 h6, ← n4 w]
          exact j50
    · match m, hm with
      | m + 1, hm =>
        show J_M_sweep_55 (L_M_sweep_55 m) (iI most) (nI now) (nI s) (nI n) ml mm mo = _
        unfold J_M_sweep_55
        have s94 : ∀ x2 : Int32, L_M_sweep_94 (L_M_sweep_55 m) fu x2 (nI now) (nI s) (-1 : Int32) (0 : Int32) (nI n) ml mm (upd mo now 1) = L_M_sweep_55 m x2 (nI (sel n lb (ad ov now) now n).1) (nI (s + 1)) (nI n) ml mm (upd mo now 1) := fun x2 => by
          have := L_sel94 (d := now) hn l2 hmo (L_M_sweep_55 m) (mm := mm) x2 (nI s) fu n 0 (by omega) (by have : fu = 5000 := rfl; omega)
          rw [show nI s + 1 = nI (s + 1) from nI_1 _] at this
          exact this
        rw [if_neg (nI_ge (by omega) (by omega)), if_pos (inb_nI (show now < 10 by omega) (by decide)), cl32 (show now < 2147483648 by omega), vz1, F_open hn hc hmm hmo]
        simp only [Option.bind_some, s94]
        have g2 := g2 m (by omega)
        by_cases w : most < oc n lb (pl (ad ov now))
        · rw [if_neg (by rw [le_i (by omega) (by omega) (by omega) (by omega)]; omega)]
          rw [if_pos w] at g2
          exact g2
        · rw [if_pos (by rw [le_i (by omega) (by omega) (by omega) (by omega)]; omega)]
          rw [if_neg w] at g2
          exact g2
theorem L_goNone : ∀ (m r i : Nat) (sd go : Nat → Int32), i + r = 10 → r < m → (∀ j, j < i → go j = 0) → ∃ go', L_B_goOverNone_10 m (nI i) sd go = some (sd, go') ∧ ∀ j, j < 10 → go' j = 0
  | 0, r, i, sd, go, _, h2, _ => by omega
  | m + 1, 0, i, sd, go, h1, h2, h3 => by
    refine ⟨go, ?_, fun j hj => h3 j (by omega)⟩
    show J_B_goOverNone_10 (L_B_goOverNone_10 m) (nI i) sd go = _
    unfold J_B_goOverNone_10
    rw [if_pos (show (10 : Int32) ≤ nI i from nI_le (a := 10) (by omega) (by omega))]
  | m + 1, r + 1, i, sd, go, h1, h2, h3 => by
    obtain ⟨go', f1, r1⟩ := L_goNone m r (i + 1) sd (upd go i 0) (by omega) (by omega) (fun j hj => by
      by_cases w : j = i
      · subst w; exact pk_us
      · rw [pk_un w]; exact h3 j (by omega))
    refine ⟨go', ?_, r1⟩
    show J_B_goOverNone_10 (L_B_goOverNone_10 m) (nI i) sd go = _
    unfold J_B_goOverNone_10
    rw [if_neg (show ¬ (10 : Int32) ≤ nI i from nI_ge (b := 10) (by omega) (by decide)), if_pos (inb_nI (show i < 10 by omega) (by decide)), cl32 (by omega), vz0, nI_1]
    exact f1
theorem L_sw27 {n k : Nat} (hn : n ≤ 10) (ml mm : Nat → Int32) : ∀ (m r i : Nat) (mo : Nat → Int32), i + r = n → r < m → (∀ j, j < i → mo j = 0) → ∃ mo', L_M_sweep_27 m (nI k) (nI i) (nI n) ml mm mo = L_M_sweep_55 fu (nI 0) (nI k) (nI 0) (nI n) ml mm mo' ∧ ∀ j, j < n → mo' j = 0
  | 0, r, i, mo, _, h2, _ => by omega
  | m + 1, 0, i, mo, h1, h2, h3 => by
    refine ⟨mo, ?_, fun j hj => h3 j (by omega)⟩
    show J_M_sweep_27 (L_M_sweep_27 m) (nI k) (nI i) (nI n) ml mm mo = _
    unfold J_M_sweep_27
    rw [if_pos (nI_le (by omega) (by omega))]
    rfl
  | m + 1, r + 1, i, mo, h1, h2, h3 => by
    obtain ⟨mo', f1, r1⟩ := L_sw27 hn ml mm m r (i + 1) (upd mo i 0) (by omega) (by omega) (fun j hj => by
      by_cases w : j = i
      · subst w; exact pk_us
      · rw [pk_un w]; exact h3 j (by omega))
    refine ⟨mo', ?_, r1⟩
    show J_M_sweep_27 (L_M_sweep_27 m) (nI k) (nI i) (nI n) ml mm mo = _
    unfold J_M_sweep_27
    rw [if_neg (nI_ge (by omega) (by omega)), if_pos (inb_nI (show i < 10 by omega) (by decide)), cl32 (by omega), vz0, nI_1]
    exact f1
theorem op_sweep {lab sg : Nat → Int32} {cc ci : Int32} {od : Nat → Int32} {we : Int32} {ro : Nat → Int64} {mn mc : Int32} {ms ml : Nat → Int32} {mk : Int32} {mr : Nat → Int64} (h : Rel lab sg cc ci od we ro mn mc ms ml mk mr) (x1 : Int32) (sd go mm mo : Nat → Int32) :
    ∃ vB vM, F_B_sweep x1 lab cc od sd go we = some vB ∧ F_M_sweep x1 mn ml mm mo = some vM ∧ vB.1 = vM.1 ∧ Rel lab sg cc ci vB.2.1 vB.2.2.2.2 ro mn mc ms ml mk mr := by
  obtain ⟨n, z, lb, hn, hz, rfl, rfl, rfl, rfl, l1, l2, sgo, oo, c1, c2⟩ := id h
  have hft := ft_lt n lb
  have hb : F_B_sweep x1 lab (nI n) od sd go we = J_B_sweep_0 x1 lab (nI n) od sd go we := rfl
  have hm : F_M_sweep x1 (nI n) ml mm mo = J_M_sweep_0 x1 (nI n) ml mm mo := rfl
  rw [hb, hm]
  unfold J_B_sweep_0 J_M_sweep_0
  rcases isCross hn x1 with ⟨k, k1, k2, k3⟩ | ⟨k1, k2⟩
  · rw [k3, F_isCode hn l1, F_mfault hn l2]
    simp only [Option.bind_some, one_ne, if_false]
    rw [k2, if_neg (nI_pos (show k < 2 ^ 31 by omega)), if_neg (nI_ge k1 (by omega))]
    by_cases q : ft n lb = 0
    · have hc : Cdx n lb := (ft_code l1.lbs).mp q
      rw [q]
      simp only [if_true, one_ne, if_false]
      rw [if_pos (show nI 0 ≤ (0 : Int32) by decide)]
      obtain ⟨mm', f2, r2⟩ := F_mates hn l2 hc mm
      obtain ⟨go', f3, r3⟩ := L_goNone fu 10 0 (fun _ => 0) go (by omega) (by decide) (fun j hj => by omega)
      have f3' : F_B_goOverNone (stand n lb) go = some ((fun _ => 0), go') := f3
      obtain ⟨mo', f4, r4⟩ := L_sw27 (k := k) hn ml mm' fu n 0 mo (by omega) (by have : fu = 5000 := rfl; omega) (fun j hj => by omega)
      have sc0 : ∀ j, 1 ≤ j → sc n lb (pl (fun _ => false)) j = 0 := fun j hj => by
        unfold sc
        by_cases w : cnt (lo lb (pl (fun _ => false))) (4 * n) j = 0
        · exact w
        · obtain ⟨i, _, e⟩ := (cnt_pos (f := lo lb (pl (fun _ => false))) (j := j) (m := 4 * n)).mpr (by omega)
          simp [lo, pl] at e
          omega
      have oc0 : oc n lb (pl (fun _ => false)) = 0 := by
        unfold oc
        have : ∀ m, isum (fun a => if pl (fun _ => false) a = true ∧ ¬ pl (fun _ => false) (mate n lb a) = true then 1 else 0) m = 0 := by
          intro m
          induction m with
          | zero => rfl
          | succ m ih => simp only [isum]; rw [ih]; simp [pl]
        exact this _
      have cn0 : isum (ovc (fun _ => false)) n = ((0 : Nat) : Int) := by
        have : ∀ m, isum (ovc (fun _ => false)) m = 0 := by
          intro m
          induction m with
          | zero => rfl
          | succ m ih => simp only [isum]; rw [ih]; simp [ovc]
        exact this _
      obtain ⟨res, od', sd', go2, mo2, g1, g2, g3⟩ := sweep_main (k := k) hn l1 l2 hc r2 n 0 (fun _ => false) (fun i => i) k 0 od (fun _ => 0) go' mo' (by omega) cn0 (fun i hi => by omega) (fun i j hi => by omega) (fun j hj => by rw [sc0 j hj]; rfl) (fun j hj => by rw [r3 j (by omega)]; rfl) (fun j hj => by rw [r4 j hj]; rfl) (by omega) (by omega) (fun _ => ⟨k1, rfl, fun _ => rfl, fun w => absurd rfl w⟩)
      rw [f3', f2]
      simp only [Option.bind_some]
      have g1 := g1 fu (by have : fu = 5000 := rfl; omega) we
      have g2 := g2 fu (by have : fu = 5000 := rfl; omega)
      rw [oc0] at g1
      have e1 : L_B_sweep_28 fu (nI k) (0 : Int32) (0 : Int32) (0 : Int32) lab (nI n) od (fun _ => 0) go' we = some (iI res, od', sd', go2, 0) := g1
      have e2 : L_M_sweep_27 fu (nI k) (0 : Int32) (nI n) ml mm' mo = some (iI res, mm', mo2) := by
        have : L_M_sweep_27 fu (nI k) (0 : Int32) (nI n) ml mm' mo = L_M_sweep_55 fu (nI 0) (nI k) (nI 0) (nI n) ml mm' mo' := f4
        rw [this]
        exact g2
      rw [e1, e2]
      exact ⟨_, _, rfl, rfl, rfl, n, z, lb, hn, hz, rfl, rfl, rfl, rfl, l1, l2, sgo, g3, Or.inl rfl, c2⟩
    · simp only [if_neg q, if_true]
      rw [if_neg (show ¬ nI (ft n lb) ≤ (0 : Int32) from nI_nle (by omega) (by omega))]
      exact ⟨_, _, rfl, rfl, rfl, h⟩
  · rw [k2]
    simp only [Option.bind_some, if_true]
    refine ⟨_, (-1, mm, mo), rfl, ?_, rfl, h⟩
    rcases k1 with k1 | k1
    · rw [if_pos k1]
    · by_cases w : x1 < 0
      · rw [if_pos w]
      · rw [if_neg w, if_pos k1]
