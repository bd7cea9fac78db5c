/-! EVENINGS ON END -/
def eveM (S : Sc) : Nat := seatS S (comersS S 0)
def evS (S : Sc) : Sc := endS S (eveM S)
def itS (S : Sc) : Nat → Sc
  | 0 => S
  | j + 1 => evS (itS S j)
/-- how many are seated, how many come on the j-th -/
def tS (S : Sc) (j : Nat) : Nat := cnt (eveM (itS S j)) 11
def cS (S : Sc) (j : Nat) : Nat := cnt (comersS (itS S j) 0) 11
def seatSum (S : Sc) : Nat → Nat
  | 0 => 0
  | j + 1 => seatSum S j + tS S j
def turnSum (S : Sc) : Nat → Nat
  | 0 => 0
  | j + 1 => turnSum S j + (cS S j - tS S j)
def woF (S : Sc) : Nat → Int32 × Nat
  | 0 => (-1, 11)
  | j + 1 => if tS S j < (woF S j).2 then (nI j, tS S j) else woF S j
def shF (S : Sc) : Nat → Int32
  | 0 => -1
  | j + 1 => if shF S j = -1 ∧ nI (tS S j) < S.2.1 4 then nI j else shF S j
theorem itS_n (S : Sc) : ∀ j, (itS S j).1 = S.1
  | 0 => rfl
  | j + 1 => itS_n S j
theorem itS_g (S : Sc) {i : Nat} (hi : i ≠ 5) : ∀ j, (itS S j).2.1 i = S.2.1 i
  | 0 => rfl
  | j + 1 => by simp only [itS, evS, endS]; rw [if_neg hi]; exact itS_g S hi j
theorem cmS_lt {S : Sc} {pl : Nat → Int32} : ∀ {d c : Nat}, c < 2 ^ S.1 → cmS S pl d c < 2 ^ S.1
  | 0, c, h => h
  | d + 1, c, h => by
    simp only [cmS]; split
    · exact h
    · exact cmS_lt (stillS_lt _ _ _)
theorem comersS_lt (S : Sc) (r : Nat) : comersS S r < 2 ^ S.1 := cmS_lt (presS_lt S)
theorem eveM_lt (S : Sc) : eveM S < 2 ^ S.1 := seatS_lt _ _
theorem sat_r0 : (∀ j, j < 10 → IN (if 0 < nI j - 1 then nI j - 1 else 0) 10) ∧ (∀ j, j < 21 → IN (if nI j + 1 < 20 then nI j + 1 else 20) 21) ∧ (∀ j, j < 10 → IN (if nI j + 1 < 9 then nI j + 1 else 9) 10) := by decide +kernel
theorem OkP.sat {n : Nat} {f : Nat → Int32} (h : OkP n f) : OkP n (satF f) := by
  obtain ⟨h0, h1, h2, h3, h4, h5, h8⟩ := h
  have e2 := IN_nI h2
  have e5 := IN_nI h5
  refine ⟨h0, h1, ?_, h3, h4, ?_, h8⟩
  · show IN (if f 2 + 1 < 20 then f 2 + 1 else 20) 21
    rw [e2.1]; exact sat_r0.2.1 _ e2.2
  · show IN (if 0 < f 5 - 1 then f 5 - 1 else 0) 10
    rw [e5.1]; exact sat_r0.1 _ e5.2
theorem OkP.away {n : Nat} {f : Nat → Int32} (h : OkP n f) : OkP n (awayF f) := by
  obtain ⟨h0, h1, h2, h3, h4, h5, h8⟩ := h
  have e5 := IN_nI h5
  refine ⟨h0, h1, h2, h3, h4, ?_, ?_⟩
  · show IN (if f 5 + 1 < 9 then f 5 + 1 else 9) 10
    rw [e5.1]; exact sat_r0.2.2 _ e5.2
  · show (if (if f 3 = 0 then 2 else 3) ≤ f 6 + 1 then (1 : Int32) else f 8) = 0 ∨ (if (if f 3 = 0 then 2 else 3) ≤ f 6 + 1 then (1 : Int32) else f 8) = 1
    by_cases q : (if f 3 = 0 then 2 else 3) ≤ f 6 + 1
    · rw [if_pos q]; exact Or.inr rfl
    · rw [if_neg q]; exact h8
theorem OkS.endS {S : Sc} (h : OkS S) (m : Nat) : OkS (endS S m) := by
  obtain ⟨h1, h2, h3, h4, h5, h6⟩ := h
  refine ⟨h1, h2, h3, h4, h5, fun i hi => ?_⟩
  show OkP S.1 (endP S m i)
  unfold endP
  split
  · exact (h6 i hi).sat
  · split
    · exact (h6 i hi).away
    · exact h6 i hi
theorem OkS.it {S : Sc} (h : OkS S) : ∀ j, OkS (itS S j)
  | 0 => h
  | j + 1 => (OkS.it h j).endS _
def DW (k : Nat) : Id → Nat → Prop := fun b j => Dk k b j ∨ b.1 = 4
theorem D9_DW {k : Nat} : ∀ b j, D9 k b j → DW k b j := fun b j h => Or.inl (D9_Dk b j h)
theorem Dk_DW {k : Nat} : ∀ b j, Dk k b j → DW k b j := fun b j h => Or.inl h
theorem fr4 {M : Mem} {k f : Nat} {x : Int32} : FrI (DW k) M (sI M (4, 0, 0) f x) := fr_sI (Or.inr rfl)
theorem RepC.o4 {M : Mem} {k f : Nat} {S : Sc} {x : Int32} (h : RepC M k S) : RepC (sI M (4, 0, 0) f x) k S := h.fr (D := fun b _ => b.1 = 4) (fr_sI rfl) (fun j q => by cases q) (fun i f _ q => by cases q)
def OutI (M : Mem) (S : Sc) (j : Nat) : Prop := mI M (4, 0, 0) 0 = nI (seatSum S j) ∧ mI M (4, 0, 0) 1 = nI (turnSum S j) ∧ mI M (4, 0, 0) 2 = (woF S j).1 ∧ mI M (4, 0, 0) 3 = shF S j
theorem OutI.fr {M M' : Mem} {S : Sc} {j : Nat} (h : OutI M S j) (he : ∀ f, mI M' (4, 0, 0) f = mI M (4, 0, 0) f) : OutI M' S j := by unfold OutI; rw [he, he, he, he]; exact h
theorem tS_le (S : Sc) (j : Nat) : tS S j ≤ 11 := cnt_le _ _
theorem cS_le (S : Sc) (j : Nat) : cS S j ≤ 11 := cnt_le _ _
theorem seatS_sub (S : Sc) (c i : Nat) (h : (seatS S c).testBit i = true) : c.testBit i = true := by
  unfold seatS at h; rw [mk_bit] at h; simp only [sdP, Bool.and_eq_true] at h; exact h.2.1
theorem cnt_sub {a b : Nat} (h : ∀ i, a.testBit i = true → b.testBit i = true) : ∀ n, cnt a n ≤ cnt b n
  | 0 => Nat.le_refl _
  | n + 1 => by
    have := cnt_sub h n
    simp only [cnt]
    by_cases q : a.testBit n = true
    · rw [if_pos q, if_pos (h n q)]; omega
    · rw [if_neg q]; omega
theorem tS_cS (S : Sc) (j : Nat) : tS S j ≤ cS S j := cnt_sub (fun i h => seatS_sub _ _ i h) 11
theorem woF_le (S : Sc) : ∀ j, (woF S j).2 ≤ 11
  | 0 => Nat.le_refl _
  | j + 1 => by simp only [woF]; split; exact tS_le S j; exact woF_le S j
set_option maxHeartbeats 4000000 in
set_option maxRecDepth 100000 in
theorem lp_X1_watch {E : Ev} {M : Mem} {Q : QT} (hW : Wi M) {k : Nat} (hk : k < 4) {S : Sc} (hO : OkS S) {n : Nat} (hn24 : n ≤ 24) (h : ∀ M', FrI (DW k) M M' → RepC M' k (itS S n) → OutI M' S n → Q none M') : ∀ j, j ≤ n → ∀ (M1 : Mem) (a5 a6 a7 : Option AV), FrI (DW k) M M1 → RepC M1 k (itS S j) → OutI M1 S j → nl a5 = true → nl a6 = true → G E (rm 6 0 0) kX1_watch (ZQ E Q 0 0) 0 0 26 [some (vR (4, 0, 0)), some (vR (1, k, 0)), some (vI (nI n)), some (vI (nI (woF S j).2)), some (vI (nI j)), a5, a6, a7] [] M1 := by
  refine up_loop n (fun j hj ih M1 a5 a6 a7 hf0 hR0 o0 ha5 ha6 => ?_)
  have hW1 := hf0.W hW
  have hOj := hO.it j
  have hn : (itS S j).1 ≤ 10 := hOj.1
  have hcl := comersS_lt (itS S j) 0
  have hsl := eveM_lt (itS S j)
  have hc2 := c_lt hcl hn
  have hs2 := c_lt hsl hn
  refine g_iload dX1_watch_26 rfl ?_
  refine g_iload_n dX1_watch_28 rfl rfl ?_
  refine g_icmp_ge (tgt := 132) dX1_watch_29 (by decide) (fun c29 => ?_) (fun c29 => ?_)
  · have hj2 : j = n := by rw [nI_leI (by omega) (by omega)] at c29; omega
    subst hj2
    refine g_vret dX1_watch_132 rfl ?_
    exact h M1 hf0 hR0 o0
  · have hjn : j < n := by rw [nI_leI (by omega) (by omega)] at c29; omega
    refine g_aloadR_n dX1_watch_32 rfl rfl ?_
    refine g_iconst dX1_watch_33 (v := 0) (by decide) ?_
    refine n_v1i (n' := 4) dX1_watch_34 mX4_comers lX1_24 rfl hW1 (vld_sc hk) rfl rfl ⟨Nat.le_of_ble_eq_true rfl, Nat.le_of_ble_eq_true rfl⟩ ⟨Nat.zero_le _, Nat.zero_le _⟩ (Nat.le_of_ble_eq_true rfl) ?_
    refine wp_X4_comers (r := 0) (by exact hW1) hk hR0 hn (by decide) (fun M2 hf2 => ?_)
    have hW1 := hf2.W hW1
    have hR2 := hR0.f9 hf2
    have o2 : OutI M2 S j := o0.fr (fun f => hf2.2 (4, 0, 0) f (fun q => by cases q.1))
    have hf3 := hf0.tr (hf2.mono D9_DW)
    refine ⟨_, rfl, ?_⟩
    refine g_istore_5 dX1_watch_37 rfl ?_
    refine g_aloadR_n dX1_watch_39 rfl rfl ?_
    refine g_iload dX1_watch_40 rfl ?_
    refine n_v1i (n' := 1) dX1_watch_42 mX4_seatedOf lX1_30 rfl hW1 (vld_sc hk) rfl rfl ⟨Nat.le_of_ble_eq_true rfl, Nat.le_of_ble_eq_true rfl⟩ ⟨Nat.zero_le _, Nat.zero_le _⟩ (Nat.le_of_ble_eq_true rfl) ?_
    refine wp_X4_seatedOf (by exact hW1) hk hR2 hn hOj hcl ?_
    refine ⟨_, rfl, ?_⟩
    rw [show seatS (itS S j) (comersS (itS S j) 0) = eveM (itS S j) from rfl]
    refine g_istore_6 dX1_watch_45 rfl ?_
    refine g_iload dX1_watch_47 rfl ?_
    refine n_s1i (n' := 0) dX1_watch_49 mJ6_bitCount_0f7a4 lX1_33 ⟨Nat.le_of_ble_eq_true rfl, Nat.le_of_ble_eq_true rfl⟩ ⟨Nat.zero_le _, Nat.zero_le _⟩ (Nat.le_of_ble_eq_true rfl) ?_
    refine wp_J6_bitCount hs2 ?_
    refine ⟨_, rfl, ?_⟩
    rw [show cnt (eveM (itS S j)) 11 = tS S j from rfl]
    refine g_istore_7 dX1_watch_52 rfl ?_
    refine g_aloadR_n dX1_watch_54 rfl rfl ?_
    refine g_dup dX1_watch_55 rfl ?_
    refine n_getI dX1_watch_56 fX1_9 rfl hW1 vld_x4 (Or.inl rfl) ?_
    refine g_iload dX1_watch_59 rfl ?_
    refine g_iadd dX1_watch_61 ?_
    refine n_putI dX1_watch_62 fX1_9 rfl hW1 vld_x4 rfl ?_
    refine g_aloadR_n dX1_watch_65 rfl rfl ?_
    refine g_dup dX1_watch_66 rfl ?_
    refine n_getI dX1_watch_67 fX1_15 rfl hW1 vld_x4 (Or.inl rfl) ?_
    refine g_iload dX1_watch_70 rfl ?_
    refine n_s1i (n' := 0) dX1_watch_72 mJ6_bitCount_0f7a4 lX1_33 ⟨Nat.le_of_ble_eq_true rfl, Nat.le_of_ble_eq_true rfl⟩ ⟨Nat.zero_le _, Nat.zero_le _⟩ (Nat.le_of_ble_eq_true rfl) ?_
    refine wp_J6_bitCount hc2 ?_
    refine ⟨_, rfl, ?_⟩
    rw [show cnt (comersS (itS S j) 0) 11 = cS S j from rfl]
    refine g_iload dX1_watch_75 rfl ?_
    refine g_isub dX1_watch_77 ?_
    refine g_iadd dX1_watch_78 ?_
    refine n_putI dX1_watch_79 fX1_15 rfl hW1 vld_x4 rfl ?_
    refine g_iload dX1_watch_82 rfl ?_
    refine g_iload_n dX1_watch_84 rfl rfl ?_
    refine g_icmp_ge (tgt := 97) dX1_watch_85 (by decide) (fun c85 => ?_) (fun c85 => ?_)
    · rw [nI_leI (by have := woF_le S j; omega) (by have := tS_le S j; omega)] at c85
      refine g_aloadR_n dX1_watch_97 rfl rfl ?_
      refine n_getI dX1_watch_98 fX1_21 rfl hW1 vld_x4 (Or.inl rfl) ?_
      refine g_iconst dX1_watch_101 (v := (-1)) (by decide) ?_
      refine g_icmp_ne (tgt := 120) dX1_watch_102 (by decide) (fun c102 => ?_) (fun c102 => ?_)
      · refine g_aloadR_n dX1_watch_120 rfl rfl ?_
        refine g_iload dX1_watch_121 rfl ?_
        refine n_v1v (n' := 2) dX1_watch_123 mX4_endEvening lX1_41 rfl hW1 (vld_sc hk) rfl rfl ⟨Nat.le_of_ble_eq_true rfl, Nat.le_of_ble_eq_true rfl⟩ ⟨Nat.zero_le _, Nat.zero_le _⟩ (Nat.le_of_ble_eq_true rfl) ?_
        refine wp_X4_endEvening (by exact hW1) hk (S := itS S j) (by first | exact hR2.o4.o4 | exact hR2.o4.o4.o4 | exact hR2.o4.o4.o4.o4) hn hsl (fun M3 hf4 hR3 => ?_)
        have hW1 := hf4.W (by exact hW1)
        have e4 := fun f => hf4.2 (4, 0, 0) f (fun q => by rcases q.1 with q | q <;> cases q)
        refine ⟨rfl, ?_⟩
        refine g_iinc_4 (v := nI (j + 1)) dX1_watch_126 rfl (nI_inc j) ?_
        refine g_goto (tgt := 26) dX1_watch_129 (by decide) ?_
        have hg4 : (itS S j).2.1 4 = S.2.1 4 := itS_g S (by decide) j
        have hfF : FrI (DW k) M M3 := by first | exact ((hf3.tr fr4).tr fr4).tr (hf4.mono Dk_DW) | exact (((hf3.tr fr4).tr fr4).tr fr4).tr (hf4.mono Dk_DW) | exact ((((hf3.tr fr4).tr fr4).tr fr4).tr fr4).tr (hf4.mono Dk_DW)
        have t0 := tS_cS S j
        have t1 := cS_le S j
        have hbar : mI M2 (1, k, 0) 6 = S.2.1 4 := (hR2.2.1 4 (by decide) (by decide)).trans hg4
        have hsh : mI M2 (4, 0, 0) 3 = shF S j := o2.2.2.2
        have hwo : (woF S (j + 1)) = (if tS S j < (woF S j).2 then (nI j, tS S j) else woF S j) := rfl
        have hsf : shF S (j + 1) = (if shF S j = -1 ∧ nI (tS S j) < S.2.1 4 then nI j else shF S j) := rfl
        have ho : OutI M3 S (j + 1) := by
          unfold OutI
          rw [e4, e4, e4, e4, hwo, hsf]
          refine ⟨?_, ?_, ?_, ?_⟩
          · simp [mI, sI]; rw [show M2.1 (4, 0, 0) 0 = nI (seatSum S j) from o2.1]; exact nI_add _ _
          · simp [mI, sI]; rw [show M2.1 (4, 0, 0) 1 = nI (turnSum S j) from o2.2.1]; exact (congrArg (fun z => nI (turnSum S j) + z) (pk_sub t0)).trans (nI_add _ _)
          · first
            | (rw [if_neg (by omega)]; simp [mI, sI]; exact o2.2.2.1)
            | (rw [if_pos (by omega)]; simp [mI, sI])
          · simp [mI, sI] at c102
            first
            | (rw [if_neg (fun q => c102 (hsh.trans q.1))]; simp [mI, sI]; exact hsh)
            | (simp [mI, sI] at c111
               first
               | (rw [if_pos ⟨hsh.symm.trans c102, by rw [← hbar]; exact c111⟩]; simp [mI, sI])
               | (rw [if_neg (fun q => by rw [← hbar] at q; exact absurd q.2 (Int32.not_lt.mpr c111))]; simp [mI, sI]; exact hsh))
        have hlast := ih hjn M3 (some (vI (nI (comersS (itS S j) 0)))) (some (vI (nI (eveM (itS S j))))) (some (vI (nI (tS S j)))) hfF hR3 ho rfl rfl
        rw [hwo] at hlast
        first
          | (rw [if_neg (by omega)] at hlast; exact hlast)
          | (rw [if_pos (by omega)] at hlast; exact hlast)
      · refine g_iload dX1_watch_105 rfl ?_
        refine g_aloadR_n dX1_watch_107 rfl rfl ?_
        refine n_getI dX1_watch_108 fX1_38 rfl hW1 (vld_sc hk) (Or.inl rfl) ?_
        refine g_icmp_ge (tgt := 120) dX1_watch_111 (by decide) (fun c111 => ?_) (fun c111 => ?_)
        · refine g_aloadR_n dX1_watch_120 rfl rfl ?_
          refine g_iload dX1_watch_121 rfl ?_
          refine n_v1v (n' := 2) dX1_watch_123 mX4_endEvening lX1_41 rfl hW1 (vld_sc hk) rfl rfl ⟨Nat.le_of_ble_eq_true rfl, Nat.le_of_ble_eq_true rfl⟩ ⟨Nat.zero_le _, Nat.zero_le _⟩ (Nat.le_of_ble_eq_true rfl) ?_
          refine wp_X4_endEvening (by exact hW1) hk (S := itS S j) (by first | exact hR2.o4.o4 | exact hR2.o4.o4.o4 | exact hR2.o4.o4.o4.o4) hn hsl (fun M3 hf4 hR3 => ?_)
          have hW1 := hf4.W (by exact hW1)
          have e4 := fun f => hf4.2 (4, 0, 0) f (fun q => by rcases q.1 with q | q <;> cases q)
          refine ⟨rfl, ?_⟩
          refine g_iinc_4 (v := nI (j + 1)) dX1_watch_126 rfl (nI_inc j) ?_
          refine g_goto (tgt := 26) dX1_watch_129 (by decide) ?_
          have hg4 : (itS S j).2.1 4 = S.2.1 4 := itS_g S (by decide) j
          have hfF : FrI (DW k) M M3 := by first | exact ((hf3.tr fr4).tr fr4).tr (hf4.mono Dk_DW) | exact (((hf3.tr fr4).tr fr4).tr fr4).tr (hf4.mono Dk_DW) | exact ((((hf3.tr fr4).tr fr4).tr fr4).tr fr4).tr (hf4.mono Dk_DW)
          have t0 := tS_cS S j
          have t1 := cS_le S j
          have hbar : mI M2 (1, k, 0) 6 = S.2.1 4 := (hR2.2.1 4 (by decide) (by decide)).trans hg4
          have hsh : mI M2 (4, 0, 0) 3 = shF S j := o2.2.2.2
          have hwo : (woF S (j + 1)) = (if tS S j < (woF S j).2 then (nI j, tS S j) else woF S j) := rfl
          have hsf : shF S (j + 1) = (if shF S j = -1 ∧ nI (tS S j) < S.2.1 4 then nI j else shF S j) := rfl
          have ho : OutI M3 S (j + 1) := by
            unfold OutI
            rw [e4, e4, e4, e4, hwo, hsf]
            refine ⟨?_, ?_, ?_, ?_⟩
            · simp [mI, sI]; rw [show M2.1 (4, 0, 0) 0 = nI (seatSum S j) from o2.1]; exact nI_add _ _
            · simp [mI, sI]; rw [show M2.1 (4, 0, 0) 1 = nI (turnSum S j) from o2.2.1]; exact (congrArg (fun z => nI (turnSum S j) + z) (pk_sub t0)).trans (nI_add _ _)
            · first
              | (rw [if_neg (by omega)]; simp [mI, sI]; exact o2.2.2.1)
              | (rw [if_pos (by omega)]; simp [mI, sI])
            · simp [mI, sI] at c102
              first
              | (rw [if_neg (fun q => c102 (hsh.trans q.1))]; simp [mI, sI]; exact hsh)
              | (simp [mI, sI] at c111
                 first
                 | (rw [if_pos ⟨hsh.symm.trans c102, by rw [← hbar]; exact c111⟩]; simp [mI, sI])
                 | (rw [if_neg (fun q => by rw [← hbar] at q; exact absurd q.2 (Int32.not_lt.mpr c111))]; simp [mI, sI]; exact hsh))
          have hlast := ih hjn M3 (some (vI (nI (comersS (itS S j) 0)))) (some (vI (nI (eveM (itS S j))))) (some (vI (nI (tS S j)))) hfF hR3 ho rfl rfl
          rw [hwo] at hlast
          first
            | (rw [if_neg (by omega)] at hlast; exact hlast)
            | (rw [if_pos (by omega)] at hlast; exact hlast)
        · refine g_aloadR_n dX1_watch_114 rfl rfl ?_
          refine g_iload dX1_watch_115 rfl ?_
          refine n_putI dX1_watch_117 fX1_21 rfl hW1 vld_x4 rfl ?_
          refine g_aloadR_n dX1_watch_120 rfl rfl ?_
          refine g_iload dX1_watch_121 rfl ?_
          refine n_v1v (n' := 2) dX1_watch_123 mX4_endEvening lX1_41 rfl hW1 (vld_sc hk) rfl rfl ⟨Nat.le_of_ble_eq_true rfl, Nat.le_of_ble_eq_true rfl⟩ ⟨Nat.zero_le _, Nat.zero_le _⟩ (Nat.le_of_ble_eq_true rfl) ?_
          refine wp_X4_endEvening (by exact hW1) hk (S := itS S j) (by first | exact hR2.o4.o4 | exact hR2.o4.o4.o4 | exact hR2.o4.o4.o4.o4) hn hsl (fun M3 hf4 hR3 => ?_)
          have hW1 := hf4.W (by exact hW1)
          have e4 := fun f => hf4.2 (4, 0, 0) f (fun q => by rcases q.1 with q | q <;> cases q)
          refine ⟨rfl, ?_⟩
          refine g_iinc_4 (v := nI (j + 1)) dX1_watch_126 rfl (nI_inc j) ?_
          refine g_goto (tgt := 26) dX1_watch_129 (by decide) ?_
          have hg4 : (itS S j).2.1 4 = S.2.1 4 := itS_g S (by decide) j
          have hfF : FrI (DW k) M M3 := by first | exact ((hf3.tr fr4).tr fr4).tr (hf4.mono Dk_DW) | exact (((hf3.tr fr4).tr fr4).tr fr4).tr (hf4.mono Dk_DW) | exact ((((hf3.tr fr4).tr fr4).tr fr4).tr fr4).tr (hf4.mono Dk_DW)
          have t0 := tS_cS S j
          have t1 := cS_le S j
          have hbar : mI M2 (1, k, 0) 6 = S.2.1 4 := (hR2.2.1 4 (by decide) (by decide)).trans hg4
          have hsh : mI M2 (4, 0, 0) 3 = shF S j := o2.2.2.2
          have hwo : (woF S (j + 1)) = (if tS S j < (woF S j).2 then (nI j, tS S j) else woF S j) := rfl
          have hsf : shF S (j + 1) = (if shF S j = -1 ∧ nI (tS S j) < S.2.1 4 then nI j else shF S j) := rfl
          have ho : OutI M3 S (j + 1) := by
            unfold OutI
            rw [e4, e4, e4, e4, hwo, hsf]
            refine ⟨?_, ?_, ?_, ?_⟩
            · simp [mI, sI]; rw [show M2.1 (4, 0, 0) 0 = nI (seatSum S j) from o2.1]; exact nI_add _ _
            · simp [mI, sI]; rw [show M2.1 (4, 0, 0) 1 = nI (turnSum S j) from o2.2.1]; exact (congrArg (fun z => nI (turnSum S j) + z) (pk_sub t0)).trans (nI_add _ _)
            · first
              | (rw [if_neg (by omega)]; simp [mI, sI]; exact o2.2.2.1)
              | (rw [if_pos (by omega)]; simp [mI, sI])
            · simp [mI, sI] at c102
              first
              | (rw [if_neg (fun q => c102 (hsh.trans q.1))]; simp [mI, sI]; exact hsh)
              | (simp [mI, sI] at c111
                 first
                 | (rw [if_pos ⟨hsh.symm.trans c102, by rw [← hbar]; exact c111⟩]; simp [mI, sI])
                 | (rw [if_neg (fun q => by rw [← hbar] at q; exact absurd q.2 (Int32.not_lt.mpr c111))]; simp [mI, sI]; exact hsh))
          have hlast := ih hjn M3 (some (vI (nI (comersS (itS S j) 0)))) (some (vI (nI (eveM (itS S j))))) (some (vI (nI (tS S j)))) hfF hR3 ho rfl rfl
          rw [hwo] at hlast
          first
            | (rw [if_neg (by omega)] at hlast; exact hlast)
            | (rw [if_pos (by omega)] at hlast; exact hlast)
    · rw [nI_leI (by have := woF_le S j; omega) (by have := tS_le S j; omega)] at c85
      refine g_iload dX1_watch_88 rfl ?_
      refine g_istore_3 dX1_watch_90 rfl ?_
      refine g_aloadR_n dX1_watch_91 rfl rfl ?_
      refine g_iload dX1_watch_92 rfl ?_
      refine n_putI dX1_watch_94 fX1_18 rfl hW1 vld_x4 rfl ?_
      refine g_aloadR_n dX1_watch_97 rfl rfl ?_
      refine n_getI dX1_watch_98 fX1_21 rfl hW1 vld_x4 (Or.inl rfl) ?_
      refine g_iconst dX1_watch_101 (v := (-1)) (by decide) ?_
      refine g_icmp_ne (tgt := 120) dX1_watch_102 (by decide) (fun c102 => ?_) (fun c102 => ?_)
      · refine g_aloadR_n dX1_watch_120 rfl rfl ?_
        refine g_iload dX1_watch_121 rfl ?_
        refine n_v1v (n' := 2) dX1_watch_123 mX4_endEvening lX1_41 rfl hW1 (vld_sc hk) rfl rfl ⟨Nat.le_of_ble_eq_true rfl, Nat.le_of_ble_eq_true rfl⟩ ⟨Nat.zero_le _, Nat.zero_le _⟩ (Nat.le_of_ble_eq_true rfl) ?_
        refine wp_X4_endEvening (by exact hW1) hk (S := itS S j) (by first | exact hR2.o4.o4 | exact hR2.o4.o4.o4 | exact hR2.o4.o4.o4.o4) hn hsl (fun M3 hf4 hR3 => ?_)
        have hW1 := hf4.W (by exact hW1)
        have e4 := fun f => hf4.2 (4, 0, 0) f (fun q => by rcases q.1 with q | q <;> cases q)
        refine ⟨rfl, ?_⟩
        refine g_iinc_4 (v := nI (j + 1)) dX1_watch_126 rfl (nI_inc j) ?_
        refine g_goto (tgt := 26) dX1_watch_129 (by decide) ?_
        have hg4 : (itS S j).2.1 4 = S.2.1 4 := itS_g S (by decide) j
        have hfF : FrI (DW k) M M3 := by first | exact ((hf3.tr fr4).tr fr4).tr (hf4.mono Dk_DW) | exact (((hf3.tr fr4).tr fr4).tr fr4).tr (hf4.mono Dk_DW) | exact ((((hf3.tr fr4).tr fr4).tr fr4).tr fr4).tr (hf4.mono Dk_DW)
        have t0 := tS_cS S j
        have t1 := cS_le S j
        have hbar : mI M2 (1, k, 0) 6 = S.2.1 4 := (hR2.2.1 4 (by decide) (by decide)).trans hg4
        have hsh : mI M2 (4, 0, 0) 3 = shF S j := o2.2.2.2
        have hwo : (woF S (j + 1)) = (if tS S j < (woF S j).2 then (nI j, tS S j) else woF S j) := rfl
        have hsf : shF S (j + 1) = (if shF S j = -1 ∧ nI (tS S j) < S.2.1 4 then nI j else shF S j) := rfl
        have ho : OutI M3 S (j + 1) := by
          unfold OutI
          rw [e4, e4, e4, e4, hwo, hsf]
          refine ⟨?_, ?_, ?_, ?_⟩
          · simp [mI, sI]; rw [show M2.1 (4, 0, 0) 0 = nI (seatSum S j) from o2.1]; exact nI_add _ _
          · simp [mI, sI]; rw [show M2.1 (4, 0, 0) 1 = nI (turnSum S j) from o2.2.1]; exact (congrArg (fun z => nI (turnSum S j) + z) (pk_sub t0)).trans (nI_add _ _)
          · first
            | (rw [if_neg (by omega)]; simp [mI, sI]; exact o2.2.2.1)
            | (rw [if_pos (by omega)]; simp [mI, sI])
          · simp [mI, sI] at c102
            first
            | (rw [if_neg (fun q => c102 (hsh.trans q.1))]; simp [mI, sI]; exact hsh)
            | (simp [mI, sI] at c111
               first
               | (rw [if_pos ⟨hsh.symm.trans c102, by rw [← hbar]; exact c111⟩]; simp [mI, sI])
               | (rw [if_neg (fun q => by rw [← hbar] at q; exact absurd q.2 (Int32.not_lt.mpr c111))]; simp [mI, sI]; exact hsh))
        have hlast := ih hjn M3 (some (vI (nI (comersS (itS S j) 0)))) (some (vI (nI (eveM (itS S j))))) (some (vI (nI (tS S j)))) hfF hR3 ho rfl rfl
        rw [hwo] at hlast
        first
          | (rw [if_neg (by omega)] at hlast; exact hlast)
          | (rw [if_pos (by omega)] at hlast; exact hlast)
      · refine g_iload dX1_watch_105 rfl ?_
        refine g_aloadR_n dX1_watch_107 rfl rfl ?_
        refine n_getI dX1_watch_108 fX1_38 rfl hW1 (vld_sc hk) (Or.inl rfl) ?_
        refine g_icmp_ge (tgt := 120) dX1_watch_111 (by decide) (fun c111 => ?_) (fun c111 => ?_)
        · refine g_aloadR_n dX1_watch_120 rfl rfl ?_
          refine g_iload dX1_watch_121 rfl ?_
          refine n_v1v (n' := 2) dX1_watch_123 mX4_endEvening lX1_41 rfl hW1 (vld_sc hk) rfl rfl ⟨Nat.le_of_ble_eq_true rfl, Nat.le_of_ble_eq_true rfl⟩ ⟨Nat.zero_le _, Nat.zero_le _⟩ (Nat.le_of_ble_eq_true rfl) ?_
          refine wp_X4_endEvening (by exact hW1) hk (S := itS S j) (by first | exact hR2.o4.o4 | exact hR2.o4.o4.o4 | exact hR2.o4.o4.o4.o4) hn hsl (fun M3 hf4 hR3 => ?_)
          have hW1 := hf4.W (by exact hW1)
          have e4 := fun f => hf4.2 (4, 0, 0) f (fun q => by rcases q.1 with q | q <;> cases q)
          refine ⟨rfl, ?_⟩
          refine g_iinc_4 (v := nI (j + 1)) dX1_watch_126 rfl (nI_inc j) ?_
          refine g_goto (tgt := 26) dX1_watch_129 (by decide) ?_
          have hg4 : (itS S j).2.1 4 = S.2.1 4 := itS_g S (by decide) j
          have hfF : FrI (DW k) M M3 := by first | exact ((hf3.tr fr4).tr fr4).tr (hf4.mono Dk_DW) | exact (((hf3.tr fr4).tr fr4).tr fr4).tr (hf4.mono Dk_DW) | exact ((((hf3.tr fr4).tr fr4).tr fr4).tr fr4).tr (hf4.mono Dk_DW)
          have t0 := tS_cS S j
          have t1 := cS_le S j
          have hbar : mI M2 (1, k, 0) 6 = S.2.1 4 := (hR2.2.1 4 (by decide) (by decide)).trans hg4
          have hsh : mI M2 (4, 0, 0) 3 = shF S j := o2.2.2.2
          have hwo : (woF S (j + 1)) = (if tS S j < (woF S j).2 then (nI j, tS S j) else woF S j) := rfl
          have hsf : shF S (j + 1) = (if shF S j = -1 ∧ nI (tS S j) < S.2.1 4 then nI j else shF S j) := rfl
          have ho : OutI M3 S (j + 1) := by
            unfold OutI
            rw [e4, e4, e4, e4, hwo, hsf]
            refine ⟨?_, ?_, ?_, ?_⟩
            · simp [mI, sI]; rw [show M2.1 (4, 0, 0) 0 = nI (seatSum S j) from o2.1]; exact nI_add _ _
            · simp [mI, sI]; rw [show M2.1 (4, 0, 0) 1 = nI (turnSum S j) from o2.2.1]; exact (congrArg (fun z => nI (turnSum S j) + z) (pk_sub t0)).trans (nI_add _ _)
            · first
              | (rw [if_neg (by omega)]; simp [mI, sI]; exact o2.2.2.1)
              | (rw [if_pos (by omega)]; simp [mI, sI])
            · simp [mI, sI] at c102
              first
              | (rw [if_neg (fun q => c102 (hsh.trans q.1))]; simp [mI, sI]; exact hsh)
              | (simp [mI, sI] at c111
                 first
                 | (rw [if_pos ⟨hsh.symm.trans c102, by rw [← hbar]; exact c111⟩]; simp [mI, sI])
                 | (rw [if_neg (fun q => by rw [← hbar] at q; exact absurd q.2 (Int32.not_lt.mpr c111))]; simp [mI, sI]; exact hsh))
          have hlast := ih hjn M3 (some (vI (nI (comersS (itS S j) 0)))) (some (vI (nI (eveM (itS S j))))) (some (vI (nI (tS S j)))) hfF hR3 ho rfl rfl
          rw [hwo] at hlast
          first
            | (rw [if_neg (by omega)] at hlast; exact hlast)
            | (rw [if_pos (by omega)] at hlast; exact hlast)
        · refine g_aloadR_n dX1_watch_114 rfl rfl ?_
          refine g_iload dX1_watch_115 rfl ?_
          refine n_putI dX1_watch_117 fX1_21 rfl hW1 vld_x4 rfl ?_
          refine g_aloadR_n dX1_watch_120 rfl rfl ?_
          refine g_iload dX1_watch_121 rfl ?_
          refine n_v1v (n' := 2) dX1_watch_123 mX4_endEvening lX1_41 rfl hW1 (vld_sc hk) rfl rfl ⟨Nat.le_of_ble_eq_true rfl, Nat.le_of_ble_eq_true rfl⟩ ⟨Nat.zero_le _, Nat.zero_le _⟩ (Nat.le_of_ble_eq_true rfl) ?_
          refine wp_X4_endEvening (by exact hW1) hk (S := itS S j) (by first | exact hR2.o4.o4 | exact hR2.o4.o4.o4 | exact hR2.o4.o4.o4.o4) hn hsl (fun M3 hf4 hR3 => ?_)
          have hW1 := hf4.W (by exact hW1)
          have e4 := fun f => hf4.2 (4, 0, 0) f (fun q => by rcases q.1 with q | q <;> cases q)
          refine ⟨rfl, ?_⟩
          refine g_iinc_4 (v := nI (j + 1)) dX1_watch_126 rfl (nI_inc j) ?_
          refine g_goto (tgt := 26) dX1_watch_129 (by decide) ?_
          have hg4 : (itS S j).2.1 4 = S.2.1 4 := itS_g S (by decide) j
          have hfF : FrI (DW k) M M3 := by first | exact ((hf3.tr fr4).tr fr4).tr (hf4.mono Dk_DW) | exact (((hf3.tr fr4).tr fr4).tr fr4).tr (hf4.mono Dk_DW) | exact ((((hf3.tr fr4).tr fr4).tr fr4).tr fr4).tr (hf4.mono Dk_DW)
          have t0 := tS_cS S j
          have t1 := cS_le S j
          have hbar : mI M2 (1, k, 0) 6 = S.2.1 4 := (hR2.2.1 4 (by decide) (by decide)).trans hg4
          have hsh : mI M2 (4, 0, 0) 3 = shF S j := o2.2.2.2
          have hwo : (woF S (j + 1)) = (if tS S j < (woF S j).2 then (nI j, tS S j) else woF S j) := rfl
          have hsf : shF S (j + 1) = (if shF S j = -1 ∧ nI (tS S j) < S.2.1 4 then nI j else shF S j) := rfl
          have ho : OutI M3 S (j + 1) := by
            unfold OutI
            rw [e4, e4, e4, e4, hwo, hsf]
            refine ⟨?_, ?_, ?_, ?_⟩
            · simp [mI, sI]; rw [show M2.1 (4, 0, 0) 0 = nI (seatSum S j) from o2.1]; exact nI_add _ _
            · simp [mI, sI]; rw [show M2.1 (4, 0, 0) 1 = nI (turnSum S j) from o2.2.1]; exact (congrArg (fun z => nI (turnSum S j) + z) (pk_sub t0)).trans (nI_add _ _)
            · first
              | (rw [if_neg (by omega)]; simp [mI, sI]; exact o2.2.2.1)
              | (rw [if_pos (by omega)]; simp [mI, sI])
            · simp [mI, sI] at c102
              first
              | (rw [if_neg (fun q => c102 (hsh.trans q.1))]; simp [mI, sI]; exact hsh)
              | (simp [mI, sI] at c111
                 first
                 | (rw [if_pos ⟨hsh.symm.trans c102, by rw [← hbar]; exact c111⟩]; simp [mI, sI])
                 | (rw [if_neg (fun q => by rw [← hbar] at q; exact absurd q.2 (Int32.not_lt.mpr c111))]; simp [mI, sI]; exact hsh))
          have hlast := ih hjn M3 (some (vI (nI (comersS (itS S j) 0)))) (some (vI (nI (eveM (itS S j))))) (some (vI (nI (tS S j)))) hfF hR3 ho rfl rfl
          rw [hwo] at hlast
          first
            | (rw [if_neg (by omega)] at hlast; exact hlast)
            | (rw [if_pos (by omega)] at hlast; exact hlast)
set_option maxHeartbeats 4000000 in
set_option maxRecDepth 100000 in
theorem wp_X1_watch {E : Ev} {M : Mem} {Q : QT} (hW : Wi M) {k : Nat} (hk : k < 4) {S : Sc} (hR : RepC M k S) (hO : OkS S) {n : Nat} (hn24 : n ≤ 24) (h : ∀ M', FrI (DW k) M M' → RepC M' k (itS S n) → OutI M' S n → Q none M') : Mth E 6 0 0 kX1_watch [vR (4, 0, 0), vR (1, k, 0), vI (nI n)] M Q := by
  refine mth_of (by decide +kernel) [some (vR (4, 0, 0)), some (vR (1, k, 0)), some (vI (nI n)), none, none, none, none, none] (Nat.le_of_ble_eq_true rfl) rfl ?_
  refine g_aloadR_n dX1_watch_0 rfl rfl ?_
  refine g_iconst dX1_watch_1 (v := 0) (by decide) ?_
  refine n_putI dX1_watch_2 fX1_9 rfl hW vld_x4 rfl ?_
  refine g_aloadR_n dX1_watch_5 rfl rfl ?_
  refine g_iconst dX1_watch_6 (v := 0) (by decide) ?_
  refine n_putI dX1_watch_7 fX1_15 rfl hW vld_x4 rfl ?_
  refine g_aloadR_n dX1_watch_10 rfl rfl ?_
  refine g_iconst dX1_watch_11 (v := (-1)) (by decide) ?_
  refine n_putI dX1_watch_12 fX1_18 rfl hW vld_x4 rfl ?_
  refine g_aloadR_n dX1_watch_15 rfl rfl ?_
  refine g_iconst dX1_watch_16 (v := (-1)) (by decide) ?_
  refine n_putI dX1_watch_17 fX1_21 rfl hW vld_x4 rfl ?_
  refine g_bipush dX1_watch_20 (v := 11) (by decide) ?_
  refine g_istore_3 dX1_watch_22 rfl ?_
  refine g_iconst dX1_watch_23 (v := 0) (by decide) ?_
  refine g_istore_4 dX1_watch_24 rfl ?_
  exact lp_X1_watch hW hk hO hn24 h 0 (Nat.zero_le _) _ none none none (((fr4.tr fr4).tr fr4).tr fr4) hR.o4.o4.o4.o4 (by unfold OutI; simp [mI, sI, seatSum, turnSum, woF, shF, nI_0]) rfl rfl
