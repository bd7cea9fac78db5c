/-! WHO COMES: ONE LARGEST SET, HOWEVER IT IS REACHED -/
theorem i_add {x y : Int32} (h1 : -2147483648 ≤ x.toInt + y.toInt) (h2 : x.toInt + y.toInt < 2147483648) : (x + y).toInt = x.toInt + y.toInt := by
  rw [Int32.toInt_add]; exact Int.bmod_eq_of_le (by omega) (by omega)
theorem i_sub {x y : Int32} (h1 : -2147483648 ≤ x.toInt - y.toInt) (h2 : x.toInt - y.toInt < 2147483648) : (x - y).toInt = x.toInt - y.toInt := by
  rw [Int32.toInt_sub]; exact Int.bmod_eq_of_le (by omega) (by omega)
theorem i_ad {x y : Int32} {a b c d : Int} (hx : a ≤ x.toInt ∧ x.toInt ≤ b) (hy : c ≤ y.toInt ∧ y.toInt ≤ d) (h1 : -2147483648 ≤ a + c) (h2 : b + d < 2147483648) : a + c ≤ (x + y).toInt ∧ (x + y).toInt ≤ b + d := by
  rw [i_add (by omega) (by omega)]; omega
theorem i_sb {x y : Int32} {a b c d : Int} (hx : a ≤ x.toInt ∧ x.toInt ≤ b) (hy : c ≤ y.toInt ∧ y.toInt ≤ d) (h1 : -2147483648 ≤ a - d) (h2 : b - c < 2147483648) : a - d ≤ (x - y).toInt ∧ (x - y).toInt ≤ b - c := by
  rw [i_sub (by omega) (by omega)]; omega
theorem i_third (e : Int32) : -800000000 ≤ (e / 3).toInt ∧ (e / 3).toInt ≤ 800000000 := by
  rw [Int32.toInt_div_of_ne_right e 3 (by decide)]
  have h := Int.natAbs_tdiv e.toInt (3 : Int32).toInt
  have h3 : ((3 : Int32).toInt).natAbs = 3 := by decide
  rw [h3] at h
  have h : _ = e.toInt.natAbs / 3 := h
  have h1 := Int32.toInt_lt e
  have h2 := Int32.le_toInt e
  omega
theorem wl_st0 : (List.range 21).all (fun a => (List.range 21).all fun b => decide (0 ≤ ((if 0 ≤ nI a - nI b then nI a - nI b else 0 - (nI a - nI b)) / 2).toInt) && decide (((if 0 ≤ nI a - nI b then nI a - nI b else 0 - (nI a - nI b)) / 2).toInt ≤ 10)) = true := by decide +kernel
theorem wl_st {l o : Int32} (hl : IN l 21) (ho : IN o 21) : 0 ≤ ((if 0 ≤ l - o then l - o else 0 - (l - o)) / 2).toInt ∧ ((if 0 ≤ l - o then l - o else 0 - (l - o)) / 2).toInt ≤ 10 := by
  have h := List.all_eq_true.mp (List.all_eq_true.mp wl_st0 _ (List.mem_range.mpr (IN_nI hl).2)) _ (List.mem_range.mpr (IN_nI ho).2)
  rw [← (IN_nI hl).1, ← (IN_nI ho).1] at h
  simpa using h
theorem wl_b20 : (List.range 10).all (fun a => decide (0 ≤ (2 * nI a).toInt) && decide ((2 * nI a).toInt ≤ 18)) = true := by decide +kernel
theorem wl_b2 {b : Int32} (hb : IN b 10) : 0 ≤ (2 * b).toInt ∧ (2 * b).toInt ≤ 18 := by
  have h := List.all_eq_true.mp wl_b20 _ (List.mem_range.mpr (IN_nI hb).2)
  rw [← (IN_nI hb).1] at h
  simpa using h
theorem i_c (x : Int32) {a : Int} (h : x.toInt = a) : a ≤ x.toInt ∧ x.toInt ≤ a := by omega
theorem IN_b {x : Int32} {n : Nat} (h : IN x n) : (0 : Int) ≤ x.toInt ∧ x.toInt ≤ (n : Int) - 1 := ⟨h.1, by have := h.2; omega⟩
theorem pull_bd {S : Sc} (hO : OkS S) {i : Nat} (hi : i < S.1) : -1000000000 ≤ (willS S i).toInt ∧ (willS S i).toInt ≤ 1000000000 := by
  obtain ⟨-, hl, hr, -, -, hp⟩ := hO
  obtain ⟨p0, p1, p2, p3, p4, p5, p8⟩ := hp i hi
  unfold willS pullF
  dsimp only
  have hst := wl_st hl p2
  have hb2 := wl_b2 p5
  have h3 := i_third (S.2.1 5)
  have c0 : ((0 : Int32)).toInt = 0 := by decide
  have hbo : (0 : Int) ≤ ((if S.2.2 i 3 = 0 then (0 : Int32) else (if 0 < 4 - S.2.1 5 / 3 then 4 - S.2.1 5 / 3 else 0))).toInt ∧ ((if S.2.2 i 3 = 0 then (0 : Int32) else (if 0 < 4 - S.2.1 5 / 3 then 4 - S.2.1 5 / 3 else 0))).toInt ≤ 800000004 := by
    by_cases q : S.2.2 i 3 = 0
    · rw [if_pos q, c0]; omega
    · rw [if_neg q]
      by_cases q2 : 0 < 4 - S.2.1 5 / 3
      · rw [if_pos q2]
        have h4 := i_sb (i_c (4 : Int32) (a := 4) (by decide)) h3 (by omega) (by omega)
        rw [Int32.lt_iff_toInt_lt, c0] at q2
        omega
      · rw [if_neg q2, c0]; omega
  have hw := i_ad (i_sb (i_sb (i_sb (i_c (12 : Int32) (a := 12) (by decide)) (IN_b hr) (by omega) (by omega)) hst (by omega) (by omega)) hb2 (by omega) (by omega)) hbo (by omega) (by omega)
  have ha := IN_b p1
  generalize 12 - S.2.1 2 - (if 0 ≤ S.2.1 1 - S.2.2 i 2 then S.2.1 1 - S.2.2 i 2 else 0 - (S.2.1 1 - S.2.2 i 2)) / 2 - 2 * S.2.2 i 5 + (if S.2.2 i 3 = 0 then 0 else (if 0 < 4 - S.2.1 5 / 3 then 4 - S.2.1 5 / 3 else 0)) = w at hw ⊢
  generalize (if 0 ≤ S.2.1 1 - S.2.2 i 2 then S.2.1 1 - S.2.2 i 2 else 0 - (S.2.1 1 - S.2.2 i 2)) / 2 = st at hst ⊢
  have t2 := i_c (2 : Int32) (a := 2) (by decide)
  have t20 := i_c (20 : Int32) (a := 20) (by decide)
  have h1 := i_ad hw ha (by omega) (by omega)
  have h2 := i_ad h1 t2 (by omega) (by omega)
  have h4 := i_sb hw ha (by omega) (by omega)
  have h5 := i_sb h4 hst (by omega) (by omega)
  have h6 := i_sb hw t20 (by omega) (by omega)
  split
  · omega
  · split
    · omega
    · split
      · omega
      · split
        · omega
        · split
          · split <;> omega
          · omega
theorem plS_bd {S : Sc} (hO : OkS S) {r i : Nat} (hi : i < S.1) : -1000000000 ≤ (plS S r i).toInt ∧ (plS S r i).toInt ≤ 1000000004 := by
  have h := pull_bd hO hi
  unfold plS
  split
  · have := i_ad h (i_c (4 : Int32) (a := 4) (by decide)) (by omega) (by omega); omega
  · rw [Int32.add_zero]; omega
/-- more come: who came still comes -/
theorem cmw_mono {S : Sc} (hO : OkS S) {r c c' i : Nat} (hi : i < S.1) (hc : ∀ j, c.testBit j = true → c'.testBit j = true) (h : cmwS S (plS S r) c i = true) : cmwS S (plS S r) c' i = true := by
  unfold cmwS at h ⊢
  have hb := plS_bd hO (r := r) hi
  by_cases q : IN (S.2.2 i 4) 10 ∧ c.testBit (S.2.2 i 4).toNatClampNeg = true
  · rw [if_pos q] at h
    rw [if_pos ⟨q.1, hc _ q.2⟩]; exact h
  · rw [if_neg q] at h
    simp only [Bool.and_eq_true, decide_eq_true_eq] at h
    by_cases q2 : IN (S.2.2 i 4) 10 ∧ c'.testBit (S.2.2 i 4).toNatClampNeg = true
    · rw [if_pos q2]
      have h1 := h.1
      rw [Int32.lt_iff_toInt_lt] at h1
      have c0 : ((0 : Int32)).toInt = 0 := by decide
      have a6 := i_add (x := plS S r i) (y := 6) (by rw [show ((6 : Int32)).toInt = 6 by decide]; omega) (by rw [show ((6 : Int32)).toInt = 6 by decide]; omega)
      have a3 := i_add (x := plS S r i) (y := 3) (by rw [show ((3 : Int32)).toInt = 3 by decide]; omega) (by rw [show ((3 : Int32)).toInt = 3 by decide]; omega)
      rw [show ((6 : Int32)).toInt = 6 by decide] at a6
      rw [show ((3 : Int32)).toInt = 3 by decide] at a3
      rw [decide_eq_true_eq, Int32.lt_iff_toInt_lt, c0]
      split <;> omega
    · rw [if_neg q2]
      simp only [Bool.and_eq_true, decide_eq_true_eq]; exact h
theorem still_bit (S : Sc) (pl : Nat → Int32) (c i : Nat) : (stillS S pl c).testBit i = (decide (i < S.1) && (c.testBit i && cmwS S pl c i)) := mk_bit _ _ _
theorem still_sub {S : Sc} {pl : Nat → Int32} {c i : Nat} (h : (stillS S pl c).testBit i = true) : c.testBit i = true := by
  rw [still_bit] at h; simp only [Bool.and_eq_true] at h; exact h.2.1
theorem cmS_sub {S : Sc} {pl : Nat → Int32} {i : Nat} : ∀ {d c : Nat}, (cmS S pl d c).testBit i = true → c.testBit i = true
  | 0, c, h => h
  | d + 1, c, h => by
    simp only [cmS] at h
    split at h
    · exact h
    · exact still_sub (cmS_sub h)
theorem cnt_lt {a b : Nat} {n : Nat} (hs : ∀ i, a.testBit i = true → b.testBit i = true) {k : Nat} (hk : k < n) (h1 : ¬ a.testBit k = true) (h2 : b.testBit k = true) : cnt a n < cnt b n := by
  induction n with
  | zero => omega
  | succ n ih =>
    simp only [cnt]
    by_cases q : k = n
    · subst q
      rw [if_neg h1, if_pos h2]
      have := cnt_sub hs k; omega
    · have := ih (by omega)
      by_cases q2 : a.testBit n = true
      · rw [if_pos q2, if_pos (hs n q2)]; omega
      · rw [if_neg q2]; omega
/-- the rounds end where nobody is taken away -/
theorem cmS_fix {S : Sc} {pl : Nat → Int32} : ∀ d c, c < 2 ^ S.1 → cnt c S.1 < d → stillS S pl (cmS S pl d c) = cmS S pl d c := by
  intro d
  induction d with
  | zero => intro c _ h; omega
  | succ d ih =>
    intro c hc h
    simp only [cmS]
    by_cases q : stillS S pl c = c
    · rw [if_pos q]; exact q
    · rw [if_neg q]
      refine ih _ (stillS_lt S pl c) ?_
      have hne : ∃ i, i < S.1 ∧ c.testBit i = true ∧ ¬ (stillS S pl c).testBit i = true := by
        apply Classical.byContradiction
        intro hcon
        apply q
        refine bit_ext (stillS_lt S pl c) hc (fun i hi => ?_)
        cases hb : c.testBit i with
        | false =>
          cases hs : (stillS S pl c).testBit i with
          | false => rfl
          | true => rw [still_sub hs] at hb; cases hb
        | true =>
          cases hs : (stillS S pl c).testBit i with
          | true => rfl
          | false => exact absurd ⟨i, hi, hb, by rw [hs]; decide⟩ hcon
      obtain ⟨i, hi, h1, h2⟩ := hne
      have := cnt_lt (n := S.1) (fun j hj => still_sub hj) hi h2 h1
      omega
theorem comers_fix {S : Sc} (hO : OkS S) (r : Nat) : ∀ i, (comersS S r).testBit i = true → cmwS S (plS S r) (comersS S r) i = true := by
  intro i hi
  have h := cmS_fix (pl := plS S r) 11 (presS S) (presS_lt S) (by have := cnt_le (presS S) S.1; have := hO.1; omega)
  have h2 : stillS S (plS S r) (comersS S r) = comersS S r := h
  rw [← h2, still_bit] at hi
  simp only [Bool.and_eq_true] at hi
  exact hi.2.2
theorem comers_pres {S : Sc} {r i : Nat} (h : (comersS S r).testBit i = true) : (presS S).testBit i = true := cmS_sub h
theorem cmS_max {S : Sc} (hO : OkS S) {r c : Nat} (hc : c < 2 ^ S.1) (hf : ∀ i, c.testBit i = true → cmwS S (plS S r) c i = true) : ∀ d c', (∀ i, c.testBit i = true → c'.testBit i = true) → ∀ i, c.testBit i = true → (cmS S (plS S r) d c').testBit i = true := by
  intro d
  induction d with
  | zero => intro c' h; exact h
  | succ d ih =>
    intro c' h
    simp only [cmS]
    split
    · exact h
    · refine ih _ (fun i hi => ?_)
      have hi2 := tb_lt hc hi
      rw [still_bit]
      simp only [Bool.and_eq_true, decide_eq_true_eq]
      exact ⟨hi2, h i hi, cmw_mono hO hi2 h (hf i hi)⟩
/-- a set between -/
def Inv (S : Sc) (r c : Nat) : Prop := c < 2 ^ S.1 ∧ (∀ i, (comersS S r).testBit i = true → c.testBit i = true) ∧ ∀ i, c.testBit i = true → (presS S).testBit i = true
theorem Inv.z (S : Sc) (r : Nat) : Inv S r (presS S) := ⟨presS_lt S, fun i h => comers_pres h, fun i h => h⟩
theorem Inv.done {S : Sc} (hO : OkS S) {r c : Nat} (h : Inv S r c) (hf : ∀ i, c.testBit i = true → cmwS S (plS S r) c i = true) : c = comersS S r := by
  refine bit_ext h.1 (comersS_lt S r) (fun i hi => ?_)
  cases hb : c.testBit i with
  | true => exact (cmS_max hO h.1 hf 11 (presS S) h.2.2 i hb).symm
  | false =>
    cases hs : (comersS S r).testBit i with
    | false => rfl
    | true => rw [h.2.1 i hs] at hb; cases hb
theorem tb_su0 : (List.range 10).all (fun k => (List.range 1024).all fun c => !c.testBit k || c - 2 ^ k == c ^^^ 2 ^ k) = true := by decide +kernel
theorem tb_sub {c k : Nat} (hc : c < 1024) (hk : c.testBit k = true) (i : Nat) : (c - 2 ^ k).testBit i = (c.testBit i && !(i == k)) := by
  have h := Nat.testBit_two_pow_self (n := k)
  have hk10 : k < 10 := tb_lt (n := 10) hc hk
  have e : c - 2 ^ k = c ^^^ 2 ^ k := by
    have h := List.all_eq_true.mp (List.all_eq_true.mp tb_su0 k (List.mem_range.mpr hk10)) c (List.mem_range.mpr hc)
    simp only [Bool.or_eq_true, Bool.not_eq_true', beq_iff_eq] at h
    rcases h with h | h
    · rw [hk] at h; cases h
    · exact h
  rw [e, Nat.testBit_xor]
  by_cases q : i = k
  · subst q; rw [hk, h]; simp
  · rw [Nat.testBit_two_pow_of_ne (fun z => q z.symm)]; simp [q]
theorem tb_ge {c k : Nat} (hk : c.testBit k = true) : 2 ^ k ≤ c := Nat.ge_two_pow_of_testBit hk
theorem Inv.out {S : Sc} (hO : OkS S) {r c k : Nat} (h : Inv S r c) (hk : c.testBit k = true) (hn : ¬ cmwS S (plS S r) c k = true) : Inv S r (c - 2 ^ k) := by
  have hc := Nat.lt_of_lt_of_le h.1 (pow_le10 hO.1)
  refine ⟨Nat.lt_of_le_of_lt (Nat.sub_le _ _) h.1, fun i hi => ?_, fun i hi => ?_⟩
  · rw [tb_sub hc hk, h.2.1 i hi]
    by_cases q : i = k
    · subst q
      exact absurd (cmw_mono hO (tb_lt h.1 hk) h.2.1 (comers_fix hO r i hi)) hn
    · simp [q]
  · rw [tb_sub hc hk] at hi
    simp only [Bool.and_eq_true] at hi
    exact h.2.2 i hi.1
