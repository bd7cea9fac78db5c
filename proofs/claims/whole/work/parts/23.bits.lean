/-! SETS OF PEOPLE AS BITS; LOOPS -/
theorem up_loop {P : Nat → Prop} (n : Nat) (step : ∀ j, j ≤ n → (j < n → P (j + 1)) → P j) : ∀ j, j ≤ n → P j := by
  have : ∀ d j, j + d = n → P j := by
    intro d
    induction d with
    | zero => intro j h; exact step j (by omega) (fun q => absurd q (by omega))
    | succ d ih => intro j h; exact step j (by omega) (fun _ => ih (j + 1) (by omega))
  intro j h
  exact this (n - j) j (by omega)
theorem nI_inc (j : Nat) : nI j + Int32.ofInt 1 = nI (j + 1) := nI_1 j
def mk (P : Nat → Bool) : Nat → Nat
  | 0 => 0
  | n + 1 => mk P n + (if P n then 2 ^ n else 0)
theorem mk_lt (P : Nat → Bool) : ∀ n, mk P n < 2 ^ n
  | 0 => by simp [mk]
  | n + 1 => by
    have := mk_lt P n
    simp only [mk, Nat.pow_succ]
    split <;> omega
theorem mk_bit (P : Nat → Bool) : ∀ (n i : Nat), (mk P n).testBit i = (decide (i < n) && P i) := by
  intro n
  induction n with
  | zero => intro i; simp [mk]
  | succ n ih =>
    intro i
    have hlt := mk_lt P n
    simp only [mk]
    by_cases hp : P n = true
    · have e : 2 ^ n + mk P n = 2 ^ n ||| mk P n := by have := Nat.two_pow_add_eq_or_of_lt hlt 1; simpa using this
      rw [if_pos hp, Nat.add_comm, e]
      rw [Nat.testBit_or, ih]
      by_cases hi : i = n
      · subst hi; simp [hp, Nat.testBit_two_pow_self]
      · rw [Nat.testBit_two_pow_of_ne (fun q => hi q.symm)]
        have : decide (i < n + 1) = decide (i < n) := by simp; omega
        rw [this]; simp
    · rw [if_neg hp, Nat.add_zero, ih]
      by_cases hi : i = n
      · subst hi; simp [hp]
      · have : decide (i < n + 1) = decide (i < n) := by simp; omega
        rw [this]
theorem mk_congr {P P' : Nat → Bool} : ∀ {n : Nat}, (∀ i, i < n → P i = P' i) → mk P n = mk P' n := by
  intro n
  induction n with
  | zero => intro _; rfl
  | succ n ih => intro h; simp only [mk]; rw [ih (fun i hi => h i (by omega)), h n (by omega)]
theorem bit_ext {a b n : Nat} (ha : a < 2 ^ n) (hb : b < 2 ^ n) (h : ∀ i, i < n → a.testBit i = b.testBit i) : a = b := by
  apply Nat.eq_of_testBit_eq
  intro i
  by_cases hi : i < n
  · exact h i hi
  · rw [Nat.testBit_lt_two_pow (Nat.lt_of_lt_of_le ha (Nat.pow_le_pow_right (by decide) (by omega))), Nat.testBit_lt_two_pow (Nat.lt_of_lt_of_le hb (Nat.pow_le_pow_right (by decide) (by omega)))]
/-- bits by ints: all of ten places -/
theorem bt_or0 : (List.range 11).all (fun j => (List.range (2 ^ j)).all fun m => nI m ||| (1 <<< (nI j &&& 31)) == nI (m + 2 ^ j)) = true := by decide +kernel
theorem bt_or {j m : Nat} (hj : j < 11) (hm : m < 2 ^ j) : nI m ||| (1 <<< (nI j &&& 31)) = nI (m + 2 ^ j) := by
  have h := List.all_eq_true.mp (List.all_eq_true.mp bt_or0 j (List.mem_range.mpr hj)) m (List.mem_range.mpr hm)
  simpa using h
theorem bt_sh0 : (List.range 11).all (fun j => (1 : Int32) <<< (nI j &&& 31) == nI (2 ^ j)) = true := by decide +kernel
theorem bt_sh {j : Nat} (hj : j < 11) : (1 : Int32) <<< (nI j &&& 31) = nI (2 ^ j) := by
  have h := List.all_eq_true.mp bt_sh0 j (List.mem_range.mpr hj)
  simpa using h
theorem bt_tb0 : (List.range 11).all (fun j => (List.range 2048).all fun m => ((nI m >>> (nI j &&& 31)) &&& 1) == (if m.testBit j then 1 else 0)) = true := by decide +kernel
theorem bt_tb {j m : Nat} (hj : j < 11) (hm : m < 2048) : (nI m >>> (nI j &&& 31)) &&& 1 = if m.testBit j then 1 else 0 := by
  have h := List.all_eq_true.mp (List.all_eq_true.mp bt_tb0 j (List.mem_range.mpr hj)) m (List.mem_range.mpr hm)
  simpa using h
/-- how many bits -/
def popc (m : Nat) : Nat := (List.range 11).foldl (fun s i => s + (if m.testBit i then 1 else 0)) 0
