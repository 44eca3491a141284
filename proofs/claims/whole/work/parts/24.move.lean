/-! change, move -/
theorem chg_step {k q m : Nat} (hk : k < 10) (hq : q < 3) {x2 mn mk : Int32} {ms ml : Nat → Int32} : L_M_change_25 (m + 1) (nI k) x2 (nI q) mn ms ml mk = L_M_change_25 m (nI k) x2 (nI (q + 1)) mn ms (upd ml (4 * k + q) (ml (4 * k + q + 1))) mk := by
  show J_M_change_25 (L_M_change_25 m) (nI k) x2 (nI q) mn ms ml mk = _
  unfold J_M_change_25
  rw [if_neg (show ¬ (3 : Int32) ≤ nI q from nI_ge (b := 3) hq (by decide)), show (4 : Int32) * nI k = nI (4 * k) from pk_mul 4 k, nI_add, show nI (4 * k + q) + (1 : Int32) = nI (4 * k + q + 1) from nI_1 _, show nI q + 1 = nI (q + 1) from nI_1 _, cl32 (show 4 * k + q < 2147483648 by omega), cl32 (show 4 * k + q + 1 < 2147483648 by omega)]
  simp only [in32 (n := 40) (show 4 * k + q < 2147483648 by omega), in32 (n := 40) (show 4 * k + q + 1 < 2147483648 by omega), if_pos (show 4 * k + q < 40 by omega), if_pos (show 4 * k + q + 1 < 40 by omega)]
theorem op_change {lab sg : Nat → Int32} {cc ci : Int32} {od : Nat → Int32} {we : Int32} {ro : Nat → Int64} {mn mc : Int32} {ms ml : Nat → Int32} {mk : Int32} {mr : Nat → Int64} (h : Rel lab sg cc ci od we ro mn mc ms ml mk mr) (x1 : Int32) :
    ∃ vB vM, F_B_change x1 lab sg cc od we = some vB ∧ F_M_change x1 mn ms ml mk = some vM ∧ vB.1 = vM.1 ∧ Rel vB.2.1 vB.2.2.1 cc ci vB.2.2.2.1 vB.2.2.2.2 ro mn mc vM.2.1 vM.2.2.1 vM.2.2.2 mr := by
  obtain ⟨n, z, lb, hn, hz, rfl, rfl, rfl, rfl, l1, l2, sgo, oo, c1, c2⟩ := id h
  have hb : F_B_change x1 lab sg (nI n) od we = J_B_change_0 x1 lab sg (nI n) od we := rfl
  have hm : F_M_change x1 (nI n) ms ml mk = J_M_change_0 x1 (nI n) ms ml mk := rfl
  rw [hb, hm]
  unfold J_B_change_0 J_M_change_0
  rcases isCross hn x1 with ⟨k, k1, k2, k3⟩ | ⟨k1, k2⟩
  · rw [k3, F_order]
    simp only [Option.bind_some, one_ne, if_false]
    rw [k2, show (4 : Int32) * nI k = nI (4 * k) from pk_mul 4 k, show nI (4 * k) + (1 : Int32) = nI (4 * k + 1) from nI_1 _, show nI (4 * k) + (2 : Int32) = nI (4 * k + 2) from nI_add _ 2, show nI (4 * k) + (3 : Int32) = nI (4 * k + 3) from nI_add _ 3, if_neg (nI_pos (show k < 2 ^ 31 by omega)), if_pos (nI_lt k1 (by omega)), cl32 (show 4 * k < 2147483648 by omega), cl32 (show 4 * k + 1 < 2147483648 by omega), cl32 (show 4 * k + 2 < 2147483648 by omega), cl32 (show 4 * k + 3 < 2147483648 by omega), cl32 (show k < 2147483648 by omega)]
    simp only [in32 (n := 40) (show 4 * k < 2147483648 by omega), in32 (n := 40) (show 4 * k + 1 < 2147483648 by omega), in32 (n := 40) (show 4 * k + 2 < 2147483648 by omega), in32 (n := 40) (show 4 * k + 3 < 2147483648 by omega), in32 (n := 10) (show k < 2147483648 by omega)]
    simp only [if_pos (show 4 * k < 40 by omega), if_pos (show 4 * k + 1 < 40 by omega), if_pos (show 4 * k + 2 < 40 by omega), if_pos (show 4 * k + 3 < 40 by omega), if_pos (show k < 10 by omega)]
    have em : L_M_change_25 fu (nI k) (ml (4 * k)) (0 : Int32) (nI n) ms ml mk = some (1, upd ms k (-(ms k)), upd (upd (upd (upd ml (4 * k) (ml (4 * k + 1))) (4 * k + 1) (ml (4 * k + 2))) (4 * k + 2) (ml (4 * k + 3))) (4 * k + 3) (ml (4 * k)), 0) := by
      show L_M_change_25 (4999 + 1) (nI k) (ml (4 * k)) (nI 0) (nI n) ms ml mk = _
      rw [chg_step (by omega) (by omega), show 4999 = 4998 + 1 from rfl, chg_step (by omega) (by omega), show 4998 = 4997 + 1 from rfl, chg_step (by omega) (by omega)]
      show J_M_change_25 (L_M_change_25 4996) (nI k) (ml (4 * k)) (nI 3) (nI n) ms _ mk = _
      unfold J_M_change_25
      rw [if_pos (show (3 : Int32) ≤ nI 3 by decide), show (4 : Int32) * nI k = nI (4 * k) from pk_mul 4 k, show nI (4 * k) + (3 : Int32) = nI (4 * k + 3) from nI_add _ 3, cl32 (show 4 * k + 3 < 2147483648 by omega), cl32 (show k < 2147483648 by omega)]
      simp only [in32 (n := 40) (show 4 * k + 3 < 2147483648 by omega), in32 (n := 10) (show k < 2147483648 by omega), if_pos (show 4 * k + 3 < 40 by omega), if_pos (show k < 10 by omega)]
      have g1 : upd ml (4 * k + 0) (ml (4 * k + 0 + 1)) (4 * k + (0 + 1) + 1) = ml (4 * k + 2) := pk_un (by omega)
      have g2 : upd (upd ml (4 * k + 0) (ml (4 * k + 0 + 1))) (4 * k + (0 + 1)) (ml (4 * k + 2)) (4 * k + (0 + 1 + 1) + 1) = ml (4 * k + 3) := by
        rw [pk_un (by omega), pk_un (by omega)]
      rw [g1, g2]
      rfl
    rw [em]
    have h2 : upd lab (4 * k) (lab (4 * k + 1)) (4 * k + 2) = lab (4 * k + 2) := pk_un (by omega)
    have h3 : upd (upd lab (4 * k) (lab (4 * k + 1))) (4 * k + 1) (lab (4 * k + 2)) (4 * k + 3) = lab (4 * k + 3) := by
      rw [pk_un (by omega), pk_un (by omega)]
    rw [h2, h3]
    have key : ∀ la : Nat → Int32, labs n la lb → labs n (upd (upd (upd (upd la (4 * k) (la (4 * k + 1))) (4 * k + 1) (la (4 * k + 2))) (4 * k + 2) (la (4 * k + 3))) (4 * k + 3) (la (4 * k))) (fun j => if j = 4 * k + 3 then lb (4 * k) else if j = 4 * k + 2 then lb (4 * k + 3) else if j = 4 * k + 1 then lb (4 * k + 2) else if j = 4 * k then lb (4 * k + 1) else lb j) := fun la hla j hj => by
      simp only [upd]
      by_cases j3 : j = 4 * k + 3
      · simp only [if_pos j3]; exact hla _ (by omega)
      · by_cases j2 : j = 4 * k + 2
        · simp only [if_neg j3, if_pos j2]; exact hla _ (by omega)
        · by_cases j1 : j = 4 * k + 1
          · simp only [if_neg j3, if_neg j2, if_pos j1]; exact hla _ (by omega)
          · by_cases j0 : j = 4 * k
            · simp only [if_neg j3, if_neg j2, if_neg j1, if_pos j0]; exact hla _ (by omega)
            · simp only [if_neg j3, if_neg j2, if_neg j1, if_neg j0]; exact hla j hj
    refine ⟨_, _, rfl, rfl, rfl, n, z, _, hn, hz, rfl, rfl, rfl, rfl, key lab l1, key ml l2, fun t ht => ?_, ordOK_id hn _, Or.inl rfl, Or.inl rfl⟩
    obtain ⟨g1, g2⟩ := sgo k k1
    simp only [upd]
    by_cases w : t = k
    · simp only [if_pos w]
      rw [g1] at g2 ⊢
      refine ⟨rfl, ?_⟩
      rcases g2 with g2 | g2
      · exact Or.inr (by rw [g2])
      · exact Or.inl (by rw [g2]; rfl)
    · simp only [if_neg w]; exact sgo t ht
  · rw [k2]
    simp only [Option.bind_some, if_true]
    refine ⟨_, (0, ms, ml, mk), rfl, ?_, rfl, h⟩
    rcases k1 with k1 | k1
    · rw [if_pos k1]
    · by_cases w : x1 < 0
      · rw [if_pos w]
      · rw [if_neg w, if_neg (fun r => by
          rw [Int32.lt_iff_toInt_lt] at r
          rw [Int32.le_iff_toInt_le] at k1
          omega)]
/-- crossings k and k + 1 change places -/
def sw (k j : Nat) : Nat := if j < 4 * k then j else if j < 4 * k + 4 then j + 4 else if j < 4 * k + 8 then j - 4 else j
def s2 (k j : Nat) : Nat := if j = k then k + 1 else if j = k + 1 then k else j
def swp (la : Nat → Int32) (k i : Nat) : Nat → Int32 := fun j => if j < 4 * k then la j else if j < 4 * k + i then la (j + 4) else if j < 4 * k + 4 then la j else if j < 4 * k + 4 + i then la (j - 4) else la j
theorem swp_step (la : Nat → Int32) (k i : Nat) (hi : i < 4) : upd (upd (swp la k i) (4 * k + i) (swp la k i (4 * k + i + 4))) (4 * k + i + 4) (swp la k i (4 * k + i)) = swp la k (i + 1) := by
  funext j
  simp only [upd, swp]
  by_cases j1 : j = 4 * k + i + 4
  · subst j1
    rw [if_pos rfl, if_neg (by omega), if_neg (by omega), if_pos (by omega), if_neg (by omega), if_neg (by omega), if_neg (by omega), if_pos (by omega)]
    congr 1
  · rw [if_neg j1]
    by_cases j2 : j = 4 * k + i
    · subst j2
      rw [if_pos rfl, if_neg (by omega), if_neg (by omega), if_neg (by omega), if_neg (by omega), if_neg (by omega), if_pos (by omega)]
    · rw [if_neg j2]
      by_cases a1 : j < 4 * k
      · simp only [if_pos a1]
      · by_cases a2 : j < 4 * k + i
        · simp only [if_neg a1, if_pos a2, if_pos (show j < 4 * k + (i + 1) by omega)]
        · by_cases a3 : j < 4 * k + 4
          · simp only [if_neg a1, if_neg a2, if_pos a3, if_neg (show ¬ j < 4 * k + (i + 1) by omega)]
          · by_cases a4 : j < 4 * k + 4 + i
            · simp only [if_neg a1, if_neg a2, if_neg a3, if_pos a4, if_neg (show ¬ j < 4 * k + (i + 1) by omega), if_pos (show j < 4 * k + 4 + (i + 1) by omega)]
            · simp only [if_neg a1, if_neg a2, if_neg a3, if_neg a4, if_neg (show ¬ j < 4 * k + (i + 1) by omega), if_neg (show ¬ j < 4 * k + 4 + (i + 1) by omega)]
theorem swp0 (la : Nat → Int32) (k : Nat) : swp la k 0 = la := by
  funext j
  simp only [swp]
  repeat' split
  all_goals first | rfl | omega
theorem swp4 (la : Nat → Int32) (k : Nat) : swp la k 4 = fun j => la (sw k j) := by
  funext j
  simp only [swp, sw]
  repeat' split
  all_goals first | rfl | omega
theorem L_swap {k : Nat} (hk : k + 1 < 10) (la sg : Nat → Int32) : ∀ (m r i : Nat), i + r = 4 → r < m → L_B_swapWithNext_34 m (nI k) (nI (4 * k + i)) (swp la k i) sg = some (fun j => la (sw k j), sg)
  | 0, r, i, _, h2 => by omega
  | m + 1, 0, i, h1, h2 => by
    show J_B_swapWithNext_34 (L_B_swapWithNext_34 m) (nI k) (nI (4 * k + i)) (swp la k i) sg = _
    unfold J_B_swapWithNext_34
    simp (disch := omega) only [e4, e1, pk_mul, nI_add, le32]
    rw [if_pos (by omega), show i = 4 by omega, swp4]
  | m + 1, r + 1, i, h1, h2 => by
    show J_B_swapWithNext_34 (L_B_swapWithNext_34 m) (nI k) (nI (4 * k + i)) (swp la k i) sg = _
    unfold J_B_swapWithNext_34
    simp (disch := omega) only [e4, e1, pk_mul, nI_add, le32, in32, cl32]
    simp only [if_neg (show ¬ 4 * (k + 1) ≤ 4 * k + i by omega), if_pos (show 4 * k + i < 40 by omega), if_pos (show 4 * k + i + 4 < 40 by omega)]
    rw [swp_step la k i (by omega)]
    exact L_swap hk la sg m r (i + 1) (by omega) (by omega)
theorem upd_s2 {sg : Nat → Int32} {k : Nat} : upd (upd sg k (sg (k + 1))) (k + 1) (sg k) = fun j => sg (s2 k j) := by
  funext j
  simp only [upd, s2]
  by_cases a : j = k + 1
  · rw [if_pos a, if_neg (by omega), if_pos a]
  · rw [if_neg a]
    by_cases b : j = k
    · rw [if_pos b, if_pos b]
    · rw [if_neg b, if_neg b, if_neg a]
theorem F_swap {k : Nat} (hk : k + 1 < 10) (la sg : Nat → Int32) : F_B_swapWithNext (nI k) la sg = some (fun j => la (sw k j), fun j => sg (s2 k j)) := by
  show J_B_swapWithNext_0 (nI k) la sg = _
  unfold J_B_swapWithNext_0
  simp (disch := omega) only [e4, e1, pk_mul, nI_add, in32, cl32]
  simp only [if_pos (show k < 10 by omega), if_pos (show k + 1 < 10 by omega)]
  have := L_swap hk la (fun j => sg (s2 k j)) fu 4 0 (by omega) (by decide)
  rw [swp0, Nat.add_zero] at this
  rw [upd_s2]
  exact this
theorem L_exch {k : Nat} (hk : k + 1 < 10) (la sg : Nat → Int32) : ∀ (m r i : Nat), i + r = 4 → r < m → L_M_exchange_32 m (nI k) (nI i) sg (swp la k i) = some (sg, fun j => la (sw k j))
  | 0, r, i, _, h2 => by omega
  | m + 1, 0, i, h1, h2 => by
    show J_M_exchange_32 (L_M_exchange_32 m) (nI k) (nI i) sg (swp la k i) = _
    unfold J_M_exchange_32
    simp (disch := omega) only [e4, le32]
    rw [if_pos (by omega), show i = 4 by omega, swp4]
  | m + 1, r + 1, i, h1, h2 => by
    show J_M_exchange_32 (L_M_exchange_32 m) (nI k) (nI i) sg (swp la k i) = _
    unfold J_M_exchange_32
    simp (disch := omega) only [e4, pk_mul, nI_add, nI_1, le32, in32, cl32]
    rw [show 4 * k + 4 + i = 4 * k + i + 4 by omega]
    simp only [if_neg (show ¬ 4 ≤ i by omega), if_pos (show 4 * k + i < 40 by omega), if_pos (show 4 * k + i + 4 < 40 by omega)]
    rw [swp_step la k i (by omega)]
    exact L_exch hk la sg m r (i + 1) (by omega) (by omega)
theorem F_exch {k : Nat} (hk : k + 1 < 10) (la sg : Nat → Int32) : F_M_exchange (nI k) sg la = some (fun j => sg (s2 k j), fun j => la (sw k j)) := by
  show J_M_exchange_0 (nI k) sg la = _
  unfold J_M_exchange_0
  simp (disch := omega) only [e1, nI_add, in32, cl32]
  simp only [if_pos (show k < 10 by omega), if_pos (show k + 1 < 10 by omega)]
  have := L_exch hk la (fun j => sg (s2 k j)) fu 4 0 (by omega) (by decide)
  rw [swp0] at this
  rw [upd_s2]
  exact this
/-! the polynomial doesn't ask for the crossings' places -/
theorem sw_sw (k j : Nat) : sw k (sw k j) = j := by
  unfold sw
  repeat' split
  all_goals omega
theorem sw_lt {k n j : Nat} (hk : k + 1 < n) : sw k j < 4 * n ↔ j < 4 * n := by
  unfold sw
  repeat' split
  all_goals omega
theorem cnt_upd {f g : Nat → Nat} {l m : Nat} (h : ∀ i, i < m → f i = g i) : cnt f m l = cnt g m l := cnt_ext (fun i hi => by rw [h i hi])
theorem cnt_sw (lb : Nat → Nat) (k l : Nat) : cnt (fun j => lb (sw k j)) (4 * k + 8) l = cnt lb (4 * k + 8) l := by
  have e : cnt (fun j => lb (sw k j)) (4 * k) l = cnt lb (4 * k) l := cnt_upd (fun i hi => by
    show lb (sw k i) = lb i
    unfold sw
    rw [if_pos hi])
  have w0 : sw k (4 * k) = 4 * k + 4 := by unfold sw; rw [if_neg (by omega), if_pos (by omega)]
  have w1 : sw k (4 * k + 1) = 4 * k + 5 := by unfold sw; rw [if_neg (by omega), if_pos (by omega)]
  have w2 : sw k (4 * k + 2) = 4 * k + 6 := by unfold sw; rw [if_neg (by omega), if_pos (by omega)]
  have w3 : sw k (4 * k + 3) = 4 * k + 7 := by unfold sw; rw [if_neg (by omega), if_pos (by omega)]
  have w4 : sw k (4 * k + 4) = 4 * k := by unfold sw; rw [if_neg (by omega), if_neg (by omega), if_pos (by omega)]; omega
  have w5 : sw k (4 * k + 5) = 4 * k + 1 := by unfold sw; rw [if_neg (by omega), if_neg (by omega), if_pos (by omega)]; omega
  have w6 : sw k (4 * k + 6) = 4 * k + 2 := by unfold sw; rw [if_neg (by omega), if_neg (by omega), if_pos (by omega)]; omega
  have w7 : sw k (4 * k + 7) = 4 * k + 3 := by unfold sw; rw [if_neg (by omega), if_neg (by omega), if_pos (by omega)]; omega
  simp only [cnt, e, w0, w1, w2, w3, w4, w5, w6, w7]
  omega
theorem cnt_swn {n k : Nat} (hk : k + 1 < n) (lb : Nat → Nat) (l : Nat) : ∀ d, 4 * k + 8 + d ≤ 4 * n → cnt (fun j => lb (sw k j)) (4 * k + 8 + d) l = cnt lb (4 * k + 8 + d) l
  | 0, _ => cnt_sw lb k l
  | d + 1, h => by
    rw [← Nat.add_assoc]
    have e : sw k (4 * k + 8 + d) = 4 * k + 8 + d := by unfold sw; rw [if_neg (by omega), if_neg (by omega), if_neg (by omega)]
    simp only [cnt, e]
    rw [cnt_swn hk lb l d (by omega)]
theorem cnt_swa {n k : Nat} (hk : k + 1 < n) (lb : Nat → Nat) (l : Nat) : cnt (fun j => lb (sw k j)) (4 * n) l = cnt lb (4 * n) l := by
  have := cnt_swn hk lb l (4 * n - (4 * k + 8)) (by omega)
  rwa [show 4 * k + 8 + (4 * n - (4 * k + 8)) = 4 * n by omega] at this
theorem ft_sw {n k : Nat} (hk : k + 1 < n) (lb : Nat → Nat) : ft n (fun j => lb (sw k j)) = ft n lb := by
  unfold ft
  rw [show cnt (fun j => lb (sw k j)) (4 * n) = cnt lb (4 * n) from funext (cnt_swa hk lb)]
def cj (k : Nat) (e : Nat → Nat) : Nat → Nat := fun x => sw k (e (sw k x))
theorem mate_sw {n k : Nat} {lb : Nat → Nat} (hk : k + 1 < n) (hc : Cdx n lb) : mate n (fun j => lb (sw k j)) = cj k (mate n lb) := by
  have hc' : Cdx n (fun j => lb (sw k j)) := fun i hi => by
    rw [cnt_swa hk]
    exact hc (sw k i) ((sw_lt hk).mpr hi)
  funext p
  unfold cj
  by_cases hp : p < 4 * n
  · have hs := (sw_lt hk).mpr hp
    obtain ⟨m1, m2, m3, m4⟩ := mate_spec hc hs
    obtain ⟨a1, a2, a3, a4⟩ := mate_spec hc' hp
    refine (a4 _ ((sw_lt hk).mpr m1) (fun q => m2 ?_) ?_).symm
    · have := congrArg (sw k) q
      rwa [sw_sw] at this
    · show lb (sw k (sw k _)) = lb (sw k p)
      rw [sw_sw, m3]
  · rw [show mate n (fun j => lb (sw k j)) p = p from if_neg hp, show mate n lb (sw k p) = sw k p from if_neg (fun q => hp ((sw_lt hk).mp q)), sw_sw]
theorem sw_inj {k a b : Nat} : sw k a = sw k b ↔ a = b := ⟨fun h => by rw [← sw_sw k a, h, sw_sw], fun h => by rw [h]⟩
theorem jn_cj (k : Nat) (e : Nat → Nat) (p q : Nat) : jn (cj k e) p q = cj k (jn e (sw k p) (sw k q)) ∧ jc (cj k e) p q = jc e (sw k p) (sw k q) := by
  constructor
  · funext x
    rw [jn_eq]
    unfold cj
    rw [jn_eq]
    by_cases x1 : x = p
    · subst x1; rw [if_pos rfl, if_pos rfl, sw_sw]
    · rw [if_neg x1, if_neg (show ¬ sw k x = sw k p from fun w => x1 (sw_inj.mp w))]
      by_cases x2 : x = q
      · subst x2; rw [if_pos rfl, if_pos rfl, sw_sw]
      · rw [if_neg x2, if_neg (show ¬ sw k x = sw k q from fun w => x2 (sw_inj.mp w))]
        by_cases x3 : sw k x = e (sw k p)
        · rw [if_pos x3, if_pos (show x = sw k (e (sw k p)) by rw [← x3, sw_sw])]
        · rw [if_neg x3, if_neg (show ¬ x = sw k (e (sw k p)) from fun w => x3 (by rw [w, sw_sw]))]
          by_cases x4 : sw k x = e (sw k q)
          · rw [if_pos x4, if_pos (show x = sw k (e (sw k q)) by rw [← x4, sw_sw])]
          · rw [if_neg x4, if_neg (show ¬ x = sw k (e (sw k q)) from fun w => x4 (by rw [w, sw_sw]))]
  · unfold jc cj
    by_cases w : e (sw k p) = sw k q
    · rw [if_pos w, if_pos (by rw [w, sw_sw])]
    · rw [if_neg w, if_neg (fun v => w (by rw [← v, sw_sw]))]
theorem sw_blk (k j i : Nat) (hi : i < 4) : sw k (4 * j + i) = 4 * s2 k j + i := by
  unfold sw s2
  by_cases a : j = k
  · subst a; rw [if_neg (by omega), if_pos (by omega), if_pos rfl]; omega
  · rw [if_neg a]
    by_cases b : j = k + 1
    · subst b; rw [if_neg (by omega), if_neg (by omega), if_pos (by omega), if_pos rfl]; omega
    · rw [if_neg b]
      by_cases c : j < k
      · rw [if_pos (by omega)]
      · rw [if_neg (by omega), if_neg (by omega), if_neg (by omega)]
theorem cj_cj (k : Nat) (e : Nat → Nat) : cj k (cj k e) = e := by
  funext x
  unfold cj
  rw [sw_sw, sw_sw]
theorem sm_cj (k : Nat) (e : Nat → Nat) (b : Bool) (j : Nat) : jl (cj k e) (prs (fun _ => b) j) = cj k (jl e (prs (fun _ => b) (s2 k j))) ∧ cy (cj k e) (prs (fun _ => b) j) = cy e (prs (fun _ => b) (s2 k j)) := by
  have b0 := sw_blk k j 0 (by omega)
  have b1 := sw_blk k j 1 (by omega)
  have b2 := sw_blk k j 2 (by omega)
  have b3 := sw_blk k j 3 (by omega)
  rw [Nat.add_zero, Nat.add_zero] at b0
  unfold prs
  cases b
  · simp only [Bool.false_eq_true, if_false, jl, cy]
    rw [(jn_cj k e _ _).1, (jn_cj k e _ _).2, (jn_cj k _ _ _).1, (jn_cj k _ _ _).2, b0, b1, b2, b3]
    exact ⟨rfl, rfl⟩
  · simp only [if_true, jl, cy]
    rw [(jn_cj k e _ _).1, (jn_cj k e _ _).2, (jn_cj k _ _ _).1, (jn_cj k _ _ _).2, b0, b1, b2, b3]
    exact ⟨rfl, rfl⟩
theorem SA_cj (G : Nat → Nat → Int64) (k : Nat) : ∀ (ks : List Nat) (e : Nat → Nat) (a f : Nat), SA G ks (cj k e) a f = SA G (ks.map (s2 k)) e a f
  | [], _, _, _ => rfl
  | j :: ks, e, a, f => by
    simp only [SA, List.map_cons]
    unfold smA smB clA clB
    rw [(sm_cj k e false j).1, (sm_cj k e false j).2, (sm_cj k e true j).1, (sm_cj k e true j).2, SA_cj G k ks, SA_cj G k ks]
theorem s2_s2 (k j : Nat) : s2 k (s2 k j) = j := by
  unfold s2
  by_cases a : j = k
  · rw [if_pos a, if_neg (by omega), if_pos rfl, a]
  · rw [if_neg a]
    by_cases b : j = k + 1
    · rw [if_pos b, if_pos rfl, b]
    · rw [if_neg b, if_neg a, if_neg b]
theorem range_s2 {n k : Nat} (hk : k + 1 < n) : ((List.range n).map (s2 k)).Perm (List.range n) := by
  have hn : ((List.range n).map (s2 k)).Nodup := by
    rw [List.nodup_iff_pairwise_ne, List.pairwise_map]
    have := List.nodup_range (n := n)
    rw [List.nodup_iff_pairwise_ne] at this
    exact this.imp (fun h q => h (by have := congrArg (s2 k) q; rwa [s2_s2, s2_s2] at this))
  refine (List.perm_ext_iff_of_nodup hn List.nodup_range).mpr (fun a => ?_)
  rw [List.mem_map, List.mem_range]
  constructor
  · rintro ⟨j, hj, rfl⟩
    have := List.mem_range.mp hj
    unfold s2
    repeat' split
    all_goals omega
  · intro h
    refine ⟨s2 k a, List.mem_range.mpr ?_, s2_s2 k a⟩
    unfold s2
    repeat' split
    all_goals omega
theorem Pol_sw {n k : Nat} (hk : k + 1 < n) (z : Nat) (lb : Nat → Nat) (hl : lbs n lb) (x : Int) : Pol n z (fun j => lb (sw k j)) x = Pol n z lb x := by
  unfold Pol
  rw [ft_sw hk]
  by_cases q : ft n lb = 0
  · rw [if_pos q, if_pos q]
    have hc := (ft_code hl).mp q
    unfold Pf
    rw [mate_sw hk hc, SA_cj]
    exact SA_any hc (range_s2 hk) x
  · rw [if_neg q, if_neg q]
