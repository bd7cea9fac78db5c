/-! A SCHOOL, AND WHAT THE CLASS'S School TELLS OF IT -/
/-- how many; level 1, rain 2, chairs 3, bar 4, evening 5, luck 6; of each his kind 0, a 1, own 2, paid 3, mate 4, behind 5, missed 6, comings 7, gone 8 -/
abbrev Sc : Type := Nat × (Nat → Int32) × (Nat → Nat → Int32)
def RepC (M : Mem) (k : Nat) (S : Sc) : Prop := mI M (1, k, 0) 2 = nI S.1 ∧ (∀ j, 1 ≤ j → j < 7 → mI M (1, k, 0) (j + 2) = S.2.1 j) ∧ ∀ i f, i < S.1 → f < 9 → mI M (2, k, i) f = S.2.2 i f
def OkP (n : Nat) (f : Nat → Int32) : Prop := IN (f 0) 7 ∧ IN (f 1) 10 ∧ IN (f 2) 21 ∧ (f 3 = 0 ∨ f 3 = 1) ∧ (f 4 = -1 ∨ IN (f 4) n) ∧ IN (f 5) 10 ∧ (f 8 = 0 ∨ f 8 = 1)
def OkS (S : Sc) : Prop := S.1 ≤ 10 ∧ IN (S.2.1 1) 21 ∧ IN (S.2.1 2) 10 ∧ (IN (S.2.1 3) 13 ∧ 1 ≤ (S.2.1 3).toInt) ∧ IN (S.2.1 4) 11 ∧ ∀ i, i < S.1 → OkP S.1 (S.2.2 i)
/-- ints are changed at D alone -/
def FrI (D : Id → Nat → Prop) (M M' : Mem) : Prop := M'.2 = M.2 ∧ ∀ b j, ¬ D b j → mI M' b j = mI M b j
theorem FrI.rf {D : Id → Nat → Prop} {M : Mem} : FrI D M M := ⟨rfl, fun _ _ _ => rfl⟩
theorem FrI.tr {D : Id → Nat → Prop} {M M1 M2 : Mem} (h1 : FrI D M M1) (h2 : FrI D M1 M2) : FrI D M M2 := ⟨h2.1.trans h1.1, fun b j h => (h2.2 b j h).trans (h1.2 b j h)⟩
theorem FrI.mono {D D' : Id → Nat → Prop} {M M1 : Mem} (h : FrI D M M1) (hD : ∀ b j, D b j → D' b j) : FrI D' M M1 := ⟨h.1, fun b j q => h.2 b j (fun z => q (hD b j z))⟩
theorem FrI.W {D : Id → Nat → Prop} {M M1 : Mem} (h : FrI D M M1) (hW : Wi M) : Wi M1 := by unfold Wi; rw [h.1]; exact hW
theorem fr_sI {D : Id → Nat → Prop} {M : Mem} {a : Id} {k : Nat} {x : Int32} (h : D a k) : FrI D M (sI M a k x) := ⟨rfl, fun b j q => by
  have : ¬ (b = a ∧ j = k) := fun z => q (z.1 ▸ z.2 ▸ h)
  simp only [mI, sI]
  rw [if_neg this]⟩
theorem fr_sP {D : Id → Nat → Prop} {M : Mem} {a : Id} {F : Nat → Int32} (h : ∀ k, D a k) : FrI D M (sP M a F) := ⟨rfl, fun b j q => by
  have : ¬ b = a := fun z => q (z ▸ h j)
  simp only [mI, sP]
  rw [if_neg this]⟩
def D9 (k : Nat) : Id → Nat → Prop := fun b j => b.1 = 2 ∧ b.2.1 = k ∧ j = 9
def Dk (k : Nat) : Id → Nat → Prop := fun b _ => (b.1 = 1 ∨ b.1 = 2) ∧ b.2.1 = k
theorem D9_Dk {k : Nat} : ∀ b j, D9 k b j → Dk k b j := fun b j h => ⟨Or.inr h.1, h.2.1⟩
theorem RepC.fr {D : Id → Nat → Prop} {M M' : Mem} {k : Nat} {S : Sc} (h : RepC M k S) (hf : FrI D M M') (h1 : ∀ j, ¬ D (1, k, 0) j) (h2 : ∀ i f, f < 9 → ¬ D (2, k, i) f) : RepC M' k S :=
  ⟨by rw [hf.2 _ _ (h1 2)]; exact h.1, fun j a b => by rw [hf.2 _ _ (h1 _)]; exact h.2.1 j a b, fun i f a b => by rw [hf.2 _ _ (h2 i f b)]; exact h.2.2 i f a b⟩
theorem RepC.f9 {M M' : Mem} {k k' : Nat} {S : Sc} (h : RepC M k S) (hf : FrI (D9 k') M M') : RepC M' k S := h.fr hf (fun j q => by cases q.1) (fun i f hf q => by have := q.2.2; omega)
/-! what the class's static methods answer -/
def ka (x : Int32) : Int32 := if IN x 7 then (roV 0).getD x.toNatClampNeg 0 else -1
def lo_ (x : Int32) : Int32 := if IN x 4 then (roV 1).getD x.toNatClampNeg 0 else 0
def hi_ (x : Int32) : Int32 := if IN x 4 then (roV 2).getD x.toNatClampNeg 0 else 0
def undr : Nat → Int32 → Int32 → Int32
  | 0, _, _ => 0
  | n + 1, at_, w => if at_ = -1 then 0 else if at_ = w then 1 else undr n (ka at_) w
def willS (S : Sc) (i : Nat) : Int32 := pullF (S.2.2 i) (S.2.1 1) (S.2.1 2) (S.2.1 5)
def presS (S : Sc) : Nat := mk (fun i => S.2.2 i 8 == 0) S.1
def cmwS (S : Sc) (pl : Nat → Int32) (c i : Nat) : Bool :=
  if IN (S.2.2 i 4) 10 ∧ c.testBit (S.2.2 i 4).toNatClampNeg = true then decide (0 < pl i + (if undr 7 (S.2.2 (S.2.2 i 4).toNatClampNeg 0) 3 = 0 then 3 else 6))
  else decide (0 < pl i) && (!(S.2.2 i 0 == 6) || S.2.2 i 4 == -1)
def stillS (S : Sc) (pl : Nat → Int32) (c : Nat) : Nat := mk (fun i => c.testBit i && cmwS S pl c i) S.1
def cmS (S : Sc) (pl : Nat → Int32) : Nat → Nat → Nat
  | 0, c => c
  | d + 1, c => if stillS S pl c = c then c else cmS S pl d (stillS S pl c)
def plS (S : Sc) (r : Nat) (i : Nat) : Int32 := willS S i + (if r.testBit i = true then 4 else 0)
def comersS (S : Sc) (r : Nat) : Nat := cmS S (plS S r) 11 (presS S)
theorem pullF_congr {f f' : Nat → Int32} (h : ∀ j, j < 9 → f j = f' j) (l r e : Int32) : pullF f l r e = pullF f' l r e := by
  simp only [pullF, h 0 (by decide), h 1 (by decide), h 2 (by decide), h 3 (by decide), h 5 (by decide)]
theorem pow_le10 {n : Nat} (h : n ≤ 10) : 2 ^ n ≤ 1024 := Nat.pow_le_pow_right (by decide) h
set_option maxHeartbeats 4000000 in
set_option maxRecDepth 100000 in
theorem wp_X6_isIn {E : Ev} {M : Mem} {Q : QT} {m : Nat} (hm : m < 2048) {i : Int32} (h : Q (some (vI (b2 (IN i 10 ∧ m.testBit i.toNatClampNeg = true)))) M) : Mth E 0 0 0 kX6_isIn [vI (nI m), vI i] M Q := by
  refine mth_of (by decide +kernel) [some (vI (nI m)), some (vI i)] (Nat.le_of_ble_eq_true rfl) rfl ?_
  refine g_iload_n dX6_isIn_0 rfl rfl ?_
  refine g_if_lt (tgt := 23) dX6_isIn_1 (by decide) (fun c1 => ?_) (fun c1 => ?_)
  · refine g_iconst dX6_isIn_23 (v := 0) (by decide) ?_
    refine g_zret dX6_isIn_24 rfl (Or.inl rfl) ?_
    first
      | exact qI h (b2_f (fun q => by obtain ⟨⟨q1, q2⟩, -⟩ := q; simp only [Int32.lt_iff_toInt_lt, Int32.le_iff_toInt_le, zcs] at *; omega))
      | (have hi := clamp_eq c1
         have hl : i.toNatClampNeg < 10 := clamp_lt c1 (by rw [show nI 10 = 10 from rfl]; exact c7) (by decide)
         have hb := bt_tb (j := i.toNatClampNeg) (m := m) (by omega) hm
         rw [← hi] at hb
         first
         | (refine qI h (b2_t ⟨by rw [hi]; exact IN_of hl (by decide), ?_⟩); rw [hb] at c16; by_cases q : m.testBit i.toNatClampNeg = true; exact q; rw [if_neg q] at c16; exact absurd c16 (by decide))
         | (refine qI h (b2_f (fun q => c16 ?_)); rw [hb, if_pos q.2]))
  · refine g_iload_n dX6_isIn_4 rfl rfl ?_
    refine g_bipush dX6_isIn_5 (v := 10) (by decide) ?_
    refine g_icmp_ge (tgt := 23) dX6_isIn_7 (by decide) (fun c7 => ?_) (fun c7 => ?_)
    · refine g_iconst dX6_isIn_23 (v := 0) (by decide) ?_
      refine g_zret dX6_isIn_24 rfl (Or.inl rfl) ?_
      first
        | exact qI h (b2_f (fun q => by obtain ⟨⟨q1, q2⟩, -⟩ := q; simp only [Int32.lt_iff_toInt_lt, Int32.le_iff_toInt_le, zcs] at *; omega))
        | (have hi := clamp_eq c1
           have hl : i.toNatClampNeg < 10 := clamp_lt c1 (by rw [show nI 10 = 10 from rfl]; exact c7) (by decide)
           have hb := bt_tb (j := i.toNatClampNeg) (m := m) (by omega) hm
           rw [← hi] at hb
           first
           | (refine qI h (b2_t ⟨by rw [hi]; exact IN_of hl (by decide), ?_⟩); rw [hb] at c16; by_cases q : m.testBit i.toNatClampNeg = true; exact q; rw [if_neg q] at c16; exact absurd c16 (by decide))
           | (refine qI h (b2_f (fun q => c16 ?_)); rw [hb, if_pos q.2]))
    · refine g_iload_n dX6_isIn_10 rfl rfl ?_
      refine g_iload_n dX6_isIn_11 rfl rfl ?_
      refine g_ishr dX6_isIn_12 ?_
      refine g_iconst dX6_isIn_13 (v := 1) (by decide) ?_
      refine g_iand dX6_isIn_14 ?_
      refine g_iconst dX6_isIn_15 (v := 1) (by decide) ?_
      refine g_icmp_ne (tgt := 23) dX6_isIn_16 (by decide) (fun c16 => ?_) (fun c16 => ?_)
      · refine g_iconst dX6_isIn_23 (v := 0) (by decide) ?_
        refine g_zret dX6_isIn_24 rfl (Or.inl rfl) ?_
        first
          | exact qI h (b2_f (fun q => by obtain ⟨⟨q1, q2⟩, -⟩ := q; simp only [Int32.lt_iff_toInt_lt, Int32.le_iff_toInt_le, zcs] at *; omega))
          | (have hi := clamp_eq c1
             have hl : i.toNatClampNeg < 10 := clamp_lt c1 (by rw [show nI 10 = 10 from rfl]; exact c7) (by decide)
             have hb := bt_tb (j := i.toNatClampNeg) (m := m) (by omega) hm
             rw [← hi] at hb
             first
             | (refine qI h (b2_t ⟨by rw [hi]; exact IN_of hl (by decide), ?_⟩); rw [hb] at c16; by_cases q : m.testBit i.toNatClampNeg = true; exact q; rw [if_neg q] at c16; exact absurd c16 (by decide))
             | (refine qI h (b2_f (fun q => c16 ?_)); rw [hb, if_pos q.2]))
      · refine g_iconst dX6_isIn_19 (v := 1) (by decide) ?_
        refine g_goto (tgt := 24) dX6_isIn_20 (by decide) ?_
        refine g_zret dX6_isIn_24 rfl (Or.inr rfl) ?_
        first
          | exact qI h (b2_f (fun q => by obtain ⟨⟨q1, q2⟩, -⟩ := q; simp only [Int32.lt_iff_toInt_lt, Int32.le_iff_toInt_le, zcs] at *; omega))
          | (have hi := clamp_eq c1
             have hl : i.toNatClampNeg < 10 := clamp_lt c1 (by rw [show nI 10 = 10 from rfl]; exact c7) (by decide)
             have hb := bt_tb (j := i.toNatClampNeg) (m := m) (by omega) hm
             rw [← hi] at hb
             first
             | (refine qI h (b2_t ⟨by rw [hi]; exact IN_of hl (by decide), ?_⟩); rw [hb] at c16; by_cases q : m.testBit i.toNatClampNeg = true; exact q; rw [if_neg q] at c16; exact absurd c16 (by decide))
             | (refine qI h (b2_f (fun q => c16 ?_)); rw [hb, if_pos q.2]))
set_option maxHeartbeats 4000000 in
set_option maxRecDepth 100000 in
theorem wp_X6_kindAbove {E : Ev} {M : Mem} {Q : QT} {x : Int32} (h : Q (some (vI (ka x))) M) : Mth E 0 0 0 kX6_kindAbove [vI x] M Q := by
  refine mth_of (by decide +kernel) [some (vI x)] (Nat.le_of_ble_eq_true rfl) rfl ?_
  refine g_iload_n dX6_kindAbove_0 rfl rfl ?_
  refine g_if_lt (tgt := 20) dX6_kindAbove_1 (by decide) (fun c1 => ?_) (fun c1 => ?_)
  · refine g_iconst dX6_kindAbove_20 (v := (-1)) (by decide) ?_
    refine g_iret dX6_kindAbove_21 rfl ?_
    exact qI h (by unfold ka; first | (rw [if_pos (by simp only [IN, Int32.lt_iff_toInt_lt, Int32.le_iff_toInt_le, ← Int32.toInt_inj, zcs, zn] at *; omega)]; done) | rw [if_neg (by simp only [IN, Int32.lt_iff_toInt_lt, Int32.le_iff_toInt_le, ← Int32.toInt_inj, zcs, zn] at *; omega)])
  · refine g_iload_n dX6_kindAbove_4 rfl rfl ?_
    refine g_gets (t := 0) dX6_kindAbove_5 (by decide) sX6_291 ?_
    refine n_alenS (n := 7) dX6_kindAbove_8 (by decide) rfl ?_
    refine g_icmp_ge (tgt := 20) dX6_kindAbove_9 (by decide) (fun c9 => ?_) (fun c9 => ?_)
    · refine g_iconst dX6_kindAbove_20 (v := (-1)) (by decide) ?_
      refine g_iret dX6_kindAbove_21 rfl ?_
      exact qI h (by unfold ka; first | (rw [if_pos (by simp only [IN, Int32.lt_iff_toInt_lt, Int32.le_iff_toInt_le, ← Int32.toInt_inj, zcs, zn] at *; omega)]; done) | rw [if_neg (by simp only [IN, Int32.lt_iff_toInt_lt, Int32.le_iff_toInt_le, ← Int32.toInt_inj, zcs, zn] at *; omega)])
    · refine g_gets (t := 0) dX6_kindAbove_12 (by decide) sX6_291 ?_
      refine g_iload_n dX6_kindAbove_15 rfl rfl ?_
      refine g_ialdS (j := x.toNatClampNeg) dX6_kindAbove_16 (by decide) (clamp_eq c1) (clamp_lt (n := 7) c1 c9 (by decide)) ?_
      refine g_goto (tgt := 21) dX6_kindAbove_17 (by decide) ?_
      refine g_iret dX6_kindAbove_21 rfl ?_
      exact qI h (by unfold ka; first | (rw [if_pos (by simp only [IN, Int32.lt_iff_toInt_lt, Int32.le_iff_toInt_le, ← Int32.toInt_inj, zcs, zn] at *; omega)]; done) | rw [if_neg (by simp only [IN, Int32.lt_iff_toInt_lt, Int32.le_iff_toInt_le, ← Int32.toInt_inj, zcs, zn] at *; omega)])
set_option maxHeartbeats 4000000 in
set_option maxRecDepth 100000 in
theorem wp_X6_leastOf {E : Ev} {M : Mem} {Q : QT} {x : Int32} (h : Q (some (vI (lo_ x))) M) : Mth E 0 0 0 kX6_leastOf [vI x] M Q := by
  refine mth_of (by decide +kernel) [some (vI x)] (Nat.le_of_ble_eq_true rfl) rfl ?_
  refine g_iload_n dX6_leastOf_0 rfl rfl ?_
  refine g_if_lt (tgt := 20) dX6_leastOf_1 (by decide) (fun c1 => ?_) (fun c1 => ?_)
  · refine g_iconst dX6_leastOf_20 (v := 0) (by decide) ?_
    refine g_iret dX6_leastOf_21 rfl ?_
    exact qI h (by unfold lo_; first | (rw [if_pos (by simp only [IN, Int32.lt_iff_toInt_lt, Int32.le_iff_toInt_le, ← Int32.toInt_inj, zcs, zn] at *; omega)]; done) | rw [if_neg (by simp only [IN, Int32.lt_iff_toInt_lt, Int32.le_iff_toInt_le, ← Int32.toInt_inj, zcs, zn] at *; omega)])
  · refine g_iload_n dX6_leastOf_4 rfl rfl ?_
    refine g_gets (t := 1) dX6_leastOf_5 (by decide) sX6_297 ?_
    refine n_alenS (n := 4) dX6_leastOf_8 (by decide) rfl ?_
    refine g_icmp_ge (tgt := 20) dX6_leastOf_9 (by decide) (fun c9 => ?_) (fun c9 => ?_)
    · refine g_iconst dX6_leastOf_20 (v := 0) (by decide) ?_
      refine g_iret dX6_leastOf_21 rfl ?_
      exact qI h (by unfold lo_; first | (rw [if_pos (by simp only [IN, Int32.lt_iff_toInt_lt, Int32.le_iff_toInt_le, ← Int32.toInt_inj, zcs, zn] at *; omega)]; done) | rw [if_neg (by simp only [IN, Int32.lt_iff_toInt_lt, Int32.le_iff_toInt_le, ← Int32.toInt_inj, zcs, zn] at *; omega)])
    · refine g_gets (t := 1) dX6_leastOf_12 (by decide) sX6_297 ?_
      refine g_iload_n dX6_leastOf_15 rfl rfl ?_
      refine g_ialdS (j := x.toNatClampNeg) dX6_leastOf_16 (by decide) (clamp_eq c1) (clamp_lt (n := 4) c1 c9 (by decide)) ?_
      refine g_goto (tgt := 21) dX6_leastOf_17 (by decide) ?_
      refine g_iret dX6_leastOf_21 rfl ?_
      exact qI h (by unfold lo_; first | (rw [if_pos (by simp only [IN, Int32.lt_iff_toInt_lt, Int32.le_iff_toInt_le, ← Int32.toInt_inj, zcs, zn] at *; omega)]; done) | rw [if_neg (by simp only [IN, Int32.lt_iff_toInt_lt, Int32.le_iff_toInt_le, ← Int32.toInt_inj, zcs, zn] at *; omega)])
set_option maxHeartbeats 4000000 in
set_option maxRecDepth 100000 in
theorem wp_X6_mostOf {E : Ev} {M : Mem} {Q : QT} {x : Int32} (h : Q (some (vI (hi_ x))) M) : Mth E 0 0 0 kX6_mostOf [vI x] M Q := by
  refine mth_of (by decide +kernel) [some (vI x)] (Nat.le_of_ble_eq_true rfl) rfl ?_
  refine g_iload_n dX6_mostOf_0 rfl rfl ?_
  refine g_if_lt (tgt := 20) dX6_mostOf_1 (by decide) (fun c1 => ?_) (fun c1 => ?_)
  · refine g_iconst dX6_mostOf_20 (v := 0) (by decide) ?_
    refine g_iret dX6_mostOf_21 rfl ?_
    exact qI h (by unfold hi_; first | (rw [if_pos (by simp only [IN, Int32.lt_iff_toInt_lt, Int32.le_iff_toInt_le, ← Int32.toInt_inj, zcs, zn] at *; omega)]; done) | rw [if_neg (by simp only [IN, Int32.lt_iff_toInt_lt, Int32.le_iff_toInt_le, ← Int32.toInt_inj, zcs, zn] at *; omega)])
  · refine g_iload_n dX6_mostOf_4 rfl rfl ?_
    refine g_gets (t := 2) dX6_mostOf_5 (by decide) sX6_300 ?_
    refine n_alenS (n := 4) dX6_mostOf_8 (by decide) rfl ?_
    refine g_icmp_ge (tgt := 20) dX6_mostOf_9 (by decide) (fun c9 => ?_) (fun c9 => ?_)
    · refine g_iconst dX6_mostOf_20 (v := 0) (by decide) ?_
      refine g_iret dX6_mostOf_21 rfl ?_
      exact qI h (by unfold hi_; first | (rw [if_pos (by simp only [IN, Int32.lt_iff_toInt_lt, Int32.le_iff_toInt_le, ← Int32.toInt_inj, zcs, zn] at *; omega)]; done) | rw [if_neg (by simp only [IN, Int32.lt_iff_toInt_lt, Int32.le_iff_toInt_le, ← Int32.toInt_inj, zcs, zn] at *; omega)])
    · refine g_gets (t := 2) dX6_mostOf_12 (by decide) sX6_300 ?_
      refine g_iload_n dX6_mostOf_15 rfl rfl ?_
      refine g_ialdS (j := x.toNatClampNeg) dX6_mostOf_16 (by decide) (clamp_eq c1) (clamp_lt (n := 4) c1 c9 (by decide)) ?_
      refine g_goto (tgt := 21) dX6_mostOf_17 (by decide) ?_
      refine g_iret dX6_mostOf_21 rfl ?_
      exact qI h (by unfold hi_; first | (rw [if_pos (by simp only [IN, Int32.lt_iff_toInt_lt, Int32.le_iff_toInt_le, ← Int32.toInt_inj, zcs, zn] at *; omega)]; done) | rw [if_neg (by simp only [IN, Int32.lt_iff_toInt_lt, Int32.le_iff_toInt_le, ← Int32.toInt_inj, zcs, zn] at *; omega)])
set_option maxHeartbeats 4000000 in
set_option maxRecDepth 100000 in
theorem lp_X6_isUnder {E : Ev} {M : Mem} {Q : QT} {x0 w : Int32} : ∀ j, j ≤ 7 → ∀ at_ : Int32, Q (some (vI (undr (7 - j) at_ w))) M → G E (rm 1 0 0) kX6_isUnder (ZQ E Q 0 0) 0 0 4 [some (vI x0), some (vI w), some (vI at_), some (vI (nI j))] [] M := by
  refine up_loop 7 (fun j hj ih at_ h => ?_)
  refine g_iload_n dX6_isUnder_4 rfl rfl ?_
  refine g_gets (t := 0) dX6_isUnder_5 (by decide) sX6_291 ?_
  refine n_alenS (n := 7) dX6_isUnder_8 (by decide) rfl ?_
  refine g_icmp_ge (tgt := 35) dX6_isUnder_9 (by decide) (fun c9 => ?_) (fun c9 => ?_)
  · have hj7 : j = 7 := by rw [nI_leI (by omega) (by omega)] at c9; omega
    subst hj7
    refine g_iconst dX6_isUnder_35 (v := 0) (by decide) ?_
    refine g_zret dX6_isUnder_36 rfl (Or.inl rfl) ?_
    first | exact h | (simp only [undr, if_pos c14] at h; exact h)
  · have hj7 : j < 7 := by rw [nI_leI (by omega) (by omega)] at c9; omega
    obtain ⟨d, hd⟩ : ∃ d, 7 - j = d + 1 := ⟨6 - j, by omega⟩
    have hd2 : 7 - (j + 1) = d := by omega
    rw [hd] at h
    refine g_iload_n dX6_isUnder_12 rfl rfl ?_
    refine g_iconst dX6_isUnder_13 (v := (-1)) (by decide) ?_
    refine g_icmp_eq (tgt := 35) dX6_isUnder_14 (by decide) (fun c14 => ?_) (fun c14 => ?_)
    · refine g_iconst dX6_isUnder_35 (v := 0) (by decide) ?_
      refine g_zret dX6_isUnder_36 rfl (Or.inl rfl) ?_
      first | exact h | (simp only [undr, if_pos c14] at h; exact h)
    · refine g_iload_n dX6_isUnder_17 rfl rfl ?_
      refine g_iload_n dX6_isUnder_18 rfl rfl ?_
      refine g_icmp_ne (tgt := 24) dX6_isUnder_19 (by decide) (fun c19 => ?_) (fun c19 => ?_)
      · refine g_iload_n dX6_isUnder_24 rfl rfl ?_
        refine n_s1i (n' := 0) dX6_isUnder_25 mX6_kindAbove lX6_294 ⟨Nat.le_of_ble_eq_true rfl, Nat.le_of_ble_eq_true rfl⟩ ⟨Nat.zero_le _, Nat.zero_le _⟩ (Nat.le_of_ble_eq_true rfl) ?_
        refine wp_X6_kindAbove ?_
        refine ⟨_, rfl, ?_⟩
        refine g_istore_2 dX6_isUnder_28 rfl ?_
        refine g_iinc_3 (v := nI (j + 1)) dX6_isUnder_29 rfl (nI_inc j) ?_
        refine g_goto (tgt := 4) dX6_isUnder_32 (by decide) ?_
        exact ih hj7 _ (by rw [hd2]; simpa only [undr, if_neg c14, if_neg c19] using h)
      · refine g_iconst dX6_isUnder_22 (v := 1) (by decide) ?_
        refine g_zret dX6_isUnder_23 rfl (Or.inr rfl) ?_
        simp only [undr, if_neg c14, if_pos c19] at h; exact h
set_option maxHeartbeats 4000000 in
set_option maxRecDepth 100000 in
theorem wp_X6_isUnder {E : Ev} {M : Mem} {Q : QT} {x w : Int32} (h : Q (some (vI (undr 7 x w))) M) : Mth E 1 0 0 kX6_isUnder [vI x, vI w] M Q := by
  refine mth_of (by decide +kernel) [some (vI x), some (vI w), none, none] (Nat.le_of_ble_eq_true rfl) rfl ?_
  refine g_iload_n dX6_isUnder_0 rfl rfl ?_
  refine g_istore_2 dX6_isUnder_1 rfl ?_
  refine g_iconst dX6_isUnder_2 (v := 0) (by decide) ?_
  refine g_istore_3 dX6_isUnder_3 rfl ?_
  exact lp_X6_isUnder 0 (by decide) x h
