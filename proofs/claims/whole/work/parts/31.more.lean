/-! MORE OF THE SCHOOL -/
def regV (M : Mem) (s ln j : Nat) : Int32 := (elV M s ln (nI j)).toInt32
def fwR (reg : Nat → Int32) (S : Sc) : Nat → Nat → Int32
  | 0, _ => -1
  | d + 1, j => if reg j = nI (eveM (itS S j)) then fwR reg S d (j + 1) else nI j
theorem elV_2 {M M' : Mem} (h : M'.2 = M.2) {s ln : Nat} {i : Int32} : elV M' s ln i = elV M s ln i := by unfold elV mJ; rw [h]
set_option maxHeartbeats 4000000 in
set_option maxRecDepth 100000 in
theorem lp_X1_firstWrong {E : Ev} {M : Mem} {Q : QT} (hW : Wi M) {k : Nat} (hk : k < 4) {S : Sc} (hO : OkS S) {s ln n : Nat} (hs : s < 9) (hl : mI M (5, s, 0) 2 = nI ln) (hl2 : ln ≤ 160) (hn24 : n ≤ 24) : ∀ j, j ≤ n → ∀ (M1 : Mem) (a5 : Option AV), FrI (Dk k) M M1 → RepC M1 k (itS S j) → (∀ M', FrI (Dk k) M M' → Q (some (vI (fwR (regV M s ln) S (n - j) j))) M') → G E (rm 6 0 0) kX1_firstWrong (ZQ E Q 0 0) 0 0 3 [some (vR (4, 0, 0)), some (vR (1, k, 0)), some (vR (5, s, 0)), some (vI (nI n)), some (vI (nI j)), a5] [] M1 := by
  refine up_loop n (fun j hj ih M1 a5 hf0 hR0 h => ?_)
  have hW1 := hf0.W hW
  have hOj := hO.it j
  have hn : (itS S j).1 ≤ 10 := hOj.1
  have hcl := comersS_lt (itS S j) 0
  have hsl := eveM_lt (itS S j)
  refine g_iload dX1_firstWrong_3 rfl ?_
  refine g_iload_n dX1_firstWrong_5 rfl rfl ?_
  refine g_icmp_ge (tgt := 46) dX1_firstWrong_6 (by decide) (fun c6 => ?_) (fun c6 => ?_)
  · have hj2 : j = n := by rw [nI_leI (by omega) (by omega)] at c6; omega
    subst hj2
    rw [Nat.sub_self] at h
    refine g_iconst dX1_firstWrong_46 (v := (-1)) (by decide) ?_
    refine g_iret dX1_firstWrong_47 rfl ?_
    exact h M1 hf0
  · have hjn : j < n := by rw [nI_leI (by omega) (by omega)] at c6; omega
    obtain ⟨d, hd⟩ : ∃ d, n - j = d + 1 := ⟨n - j - 1, by omega⟩
    have hd2 : n - (j + 1) = d := by omega
    rw [hd] at h
    simp only [fwR] at h
    refine g_aloadR_n dX1_firstWrong_9 rfl rfl ?_
    refine g_aloadR_n dX1_firstWrong_10 rfl rfl ?_
    refine g_iconst dX1_firstWrong_11 (v := 0) (by decide) ?_
    refine n_v1i (n' := 4) dX1_firstWrong_12 mX4_comers lX1_24 rfl hW1 (vld_sc hk) rfl rfl ⟨Nat.le_of_ble_eq_true rfl, Nat.le_of_ble_eq_true rfl⟩ ⟨Nat.zero_le _, Nat.zero_le _⟩ (Nat.le_of_ble_eq_true rfl) ?_
    refine wp_X4_comers (r := 0) (by exact hW1) hk hR0 hn (by decide) (fun M2 hf2 => ?_)
    have hW1 := hf2.W hW1
    have hR2 := hR0.f9 hf2
    have hf3 := hf0.tr (hf2.mono D9_Dk)
    refine ⟨_, rfl, ?_⟩
    refine n_v1i (n' := 1) dX1_firstWrong_15 mX4_seatedOf lX1_30 rfl hW1 (vld_sc hk) rfl rfl ⟨Nat.le_of_ble_eq_true rfl, Nat.le_of_ble_eq_true rfl⟩ ⟨Nat.zero_le _, Nat.zero_le _⟩ (Nat.le_of_ble_eq_true rfl) ?_
    refine wp_X4_seatedOf (by exact hW1) hk hR2 hn hOj hcl ?_
    refine ⟨_, rfl, ?_⟩
    rw [show seatS (itS S j) (comersS (itS S j) 0) = eveM (itS S j) from rfl]
    refine g_istore_5 dX1_firstWrong_18 rfl ?_
    refine g_aloadR_n dX1_firstWrong_20 rfl rfl ?_
    refine g_iload dX1_firstWrong_21 rfl ?_
    refine n_v1i (n' := 1) dX1_firstWrong_23 mX5_intAt lX1_45 rfl hW1 (vld_sh hs) rfl rfl ⟨Nat.le_of_ble_eq_true rfl, Nat.le_of_ble_eq_true rfl⟩ ⟨Nat.zero_le _, Nat.zero_le _⟩ (Nat.le_of_ble_eq_true rfl) ?_
    refine wp_X5_intAt (by exact hW1) hs ((hf3.2 _ _ (fun q => by rcases q.1 with q | q <;> cases q)).trans hl) hl2 ?_
    refine ⟨_, rfl, ?_⟩
    refine g_iload dX1_firstWrong_26 rfl ?_
    refine g_icmp_eq (tgt := 34) dX1_firstWrong_28 (by decide) (fun c28 => ?_) (fun c28 => ?_)
    · have er : (elV M2 s ln (nI j)).toInt32 = regV M s ln j := by unfold regV; rw [elV_2 (hf2.1.trans hf0.1)]
      rw [er] at c28
      refine g_aloadR_n dX1_firstWrong_34 rfl rfl ?_
      refine g_iload dX1_firstWrong_35 rfl ?_
      refine n_v1v (n' := 2) dX1_firstWrong_37 mX4_endEvening lX1_41 rfl hW1 (vld_sc hk) rfl rfl ⟨Nat.le_of_ble_eq_true rfl, Nat.le_of_ble_eq_true rfl⟩ ⟨Nat.zero_le _, Nat.zero_le _⟩ (Nat.le_of_ble_eq_true rfl) ?_
      refine wp_X4_endEvening (by exact hW1) hk (S := itS S j) hR2 hn hsl (fun M3 hf4 hR3 => ?_)
      have hW1 := hf4.W hW1
      refine ⟨rfl, ?_⟩
      refine g_iinc_4 (v := nI (j + 1)) dX1_firstWrong_40 rfl (nI_inc j) ?_
      refine g_goto (tgt := 3) dX1_firstWrong_43 (by decide) ?_
      rw [if_pos c28] at h
      exact ih hjn M3 _ (hf3.tr hf4) hR3 (by rw [hd2]; exact h)
    · have er : (elV M2 s ln (nI j)).toInt32 = regV M s ln j := by unfold regV; rw [elV_2 (hf2.1.trans hf0.1)]
      rw [er] at c28
      refine g_iload dX1_firstWrong_31 rfl ?_
      refine g_iret dX1_firstWrong_33 rfl ?_
      rw [if_neg c28] at h; exact h M2 hf3
set_option maxHeartbeats 4000000 in
set_option maxRecDepth 100000 in
theorem wp_X1_firstWrong {E : Ev} {M : Mem} {Q : QT} (hW : Wi M) {k : Nat} (hk : k < 4) {S : Sc} (hR : RepC M k S) (hO : OkS S) {s ln n : Nat} (hs : s < 9) (hl : mI M (5, s, 0) 2 = nI ln) (hl2 : ln ≤ 160) (hn24 : n ≤ 24) (h : ∀ M', FrI (Dk k) M M' → Q (some (vI (fwR (regV M s ln) S n 0))) M') : Mth E 6 0 0 kX1_firstWrong [vR (4, 0, 0), vR (1, k, 0), vR (5, s, 0), vI (nI n)] M Q := by
  refine mth_of (by decide +kernel) [some (vR (4, 0, 0)), some (vR (1, k, 0)), some (vR (5, s, 0)), some (vI (nI n)), none, none] (Nat.le_of_ble_eq_true rfl) rfl ?_
  refine g_iconst dX1_firstWrong_0 (v := 0) (by decide) ?_
  refine g_istore_4 dX1_firstWrong_1 rfl ?_
  exact lp_X1_firstWrong hW hk hO hs hl hl2 hn24 0 (Nat.zero_le _) M none FrI.rf hR h
def sumS (S : Sc) (f : Nat) : Nat → Int32
  | 0 => 0
  | j + 1 => sumS S f j + S.2.2 j f
set_option maxHeartbeats 4000000 in
set_option maxRecDepth 100000 in
theorem lp_X4_comingsTogether {E : Ev} {M : Mem} {Q : QT} (hW : Wi M) {k : Nat} (hk : k < 4) {S : Sc} (hR : RepC M k S) (hn : S.1 ≤ 10) (h : Q (some (vI (sumS S 7 S.1))) M) : ∀ j, j ≤ S.1 → G E (rm 1 0 0) kX4_comingsTogether (ZQ E Q 0 0) 0 0 4 [some (vR (1, k, 0)), some (vI (sumS S 7 j)), some (vI (nI j))] [] M := by
  refine up_loop S.1 (fun j hj ih => ?_)
  refine g_iload_n dX4_comingsTogether_4 rfl rfl ?_
  refine g_aloadR_n dX4_comingsTogether_5 rfl rfl ?_
  refine n_getI dX4_comingsTogether_6 fX4_35 rfl hW (vld_sc hk) (Or.inl rfl) ?_
  refine g_icmp_ge (tgt := 29) dX4_comingsTogether_9 (by decide) (fun c9 => ?_) (fun c9 => ?_)
  · have hjn := sz_ge hR.1 (by omega) (by omega) c9
    have hjn2 : j = S.1 := by omega
    refine g_iload_n dX4_comingsTogether_29 rfl rfl ?_
    refine g_iret dX4_comingsTogether_30 rfl ?_
    rw [hjn2]; exact h
  · have hjn := sz_lt hR.1 (by omega) (by omega) c9
    refine g_iload_n dX4_comingsTogether_12 rfl rfl ?_
    refine g_aloadR_n dX4_comingsTogether_13 rfl rfl ?_
    refine g_iload_n dX4_comingsTogether_14 rfl rfl ?_
    refine n_v1r (n' := 0) dX4_comingsTogether_15 mX4_one lX4_44 rfl hW (vld_sc hk) rfl rfl ⟨Nat.le_of_ble_eq_true rfl, Nat.le_of_ble_eq_true rfl⟩ ⟨Nat.zero_le _, Nat.zero_le _⟩ (Nat.le_of_ble_eq_true rfl) ?_
    refine wp_X4_oneN (by exact hW) hk (show j < 10 by omega) ?_
    refine ⟨_, rfl, ?_⟩
    refine n_getI dX4_comingsTogether_18 fX4_69 rfl hW (vld_pe hk (by omega)) (Or.inl rfl) ?_
    refine g_iadd dX4_comingsTogether_21 ?_
    rw [hR.2.2 j 7 hjn (by decide)]
    refine g_istore_1 dX4_comingsTogether_22 rfl ?_
    refine g_iinc_2 (v := nI (j + 1)) dX4_comingsTogether_23 rfl (nI_inc j) ?_
    refine g_goto (tgt := 4) dX4_comingsTogether_26 (by decide) ?_
    exact ih hjn
set_option maxHeartbeats 4000000 in
set_option maxRecDepth 100000 in
theorem wp_X4_comingsTogether {E : Ev} {M : Mem} {Q : QT} (hW : Wi M) {k : Nat} (hk : k < 4) {S : Sc} (hR : RepC M k S) (hn : S.1 ≤ 10) (h : Q (some (vI (sumS S 7 S.1))) M) : Mth E 1 0 0 kX4_comingsTogether [vR (1, k, 0)] M Q := by
  refine mth_of (by decide +kernel) [some (vR (1, k, 0)), none, none] (Nat.le_of_ble_eq_true rfl) rfl ?_
  refine g_iconst dX4_comingsTogether_0 (v := 0) (by decide) ?_
  refine g_istore_1 dX4_comingsTogether_1 rfl ?_
  refine g_iconst dX4_comingsTogether_2 (v := 0) (by decide) ?_
  refine g_istore_2 dX4_comingsTogether_3 rfl ?_
  exact lp_X4_comingsTogether hW hk hR hn h 0 (Nat.zero_le _)
def payS (S : Sc) (v : Int32) : Sc := (S.1, S.2.1, fun i f => if f = 3 then v else S.2.2 i f)
def disS (S : Sc) (t : Nat) : Sc := (S.1, S.2.1, fun i f => if f = 8 ∧ t ≤ i then 1 else S.2.2 i f)
theorem Half.step1 {M M1 : Mem} {k : Nat} {S : Sc} {F : Nat → Nat → Int32} {j f0 : Nat} {x : Int32} (h : Half M M1 k S F j) (hj : j < S.1) (hX : ∀ f, f < 9 → (if f = f0 then x else S.2.2 j f) = F j f) : Half M (sI M1 (2, k, j) f0 x) k S F (j + 1) := by
  rw [sI_sP]
  exact h.step (fun f hf => by rw [← hX f hf]; by_cases hq : f = f0; rw [if_pos hq, if_pos hq]; rw [if_neg hq, if_neg hq]; exact h.old hj f hf)
theorem Half.rep {M M1 : Mem} {k : Nat} {S : Sc} {F : Nat → Nat → Int32} {j : Nat} (h : Half M M1 k S F j) (hj : j = S.1) (hR : RepC M k S) : RepC M1 k (S.1, S.2.1, F) := ⟨(h.2.1 _).trans hR.1, fun i a b => (h.2.1 _).trans (hR.2.1 i a b), h.all hj⟩
set_option maxHeartbeats 4000000 in
set_option maxRecDepth 100000 in
theorem lp_X4_payForAll {E : Ev} {M : Mem} {Q : QT} (hW : Wi M) {k : Nat} (hk : k < 4) {S : Sc} (hR : RepC M k S) (hn : S.1 ≤ 10) {v : Int32} (hv : v = 0 ∨ v = 1) (h : ∀ M', FrI (Dk k) M M' → RepC M' k (payS S v) → Q none M') : ∀ j, j ≤ S.1 → ∀ M1, Half M M1 k S (payS S v).2.2 j → G E (rm 1 0 0) kX4_payForAll (ZQ E Q 0 0) 0 0 2 [some (vR (1, k, 0)), some (vI v), some (vI (nI j))] [] M1 := by
  refine up_loop S.1 (fun j hj ih M1 hh => ?_)
  have hW1 := hh.1.W hW
  have hsz : mI M1 (1, k, 0) 2 = nI S.1 := (hh.2.1 2).trans hR.1
  refine g_iload_n dX4_payForAll_2 rfl rfl ?_
  refine g_aloadR_n dX4_payForAll_3 rfl rfl ?_
  refine n_getI dX4_payForAll_4 fX4_35 rfl hW1 (vld_sc hk) (Or.inl rfl) ?_
  refine g_icmp_ge (tgt := 25) dX4_payForAll_7 (by decide) (fun c7 => ?_) (fun c7 => ?_)
  · have hjn := sz_ge hsz (by omega) (by omega) c7
    have hjn2 : j = S.1 := by omega
    refine g_vret dX4_payForAll_25 rfl ?_
    exact h _ hh.1 (hh.rep hjn2 hR)
  · have hjn := sz_lt hsz (by omega) (by omega) c7
    refine g_aloadR_n dX4_payForAll_10 rfl rfl ?_
    refine g_iload_n dX4_payForAll_11 rfl rfl ?_
    refine n_v1r (n' := 0) dX4_payForAll_12 mX4_one lX4_44 rfl hW1 (vld_sc hk) rfl rfl ⟨Nat.le_of_ble_eq_true rfl, Nat.le_of_ble_eq_true rfl⟩ ⟨Nat.zero_le _, Nat.zero_le _⟩ (Nat.le_of_ble_eq_true rfl) ?_
    refine wp_X4_oneN (by exact hW1) hk (show j < 10 by omega) ?_
    refine ⟨_, rfl, ?_⟩
    refine g_iload_n dX4_payForAll_15 rfl rfl ?_
    refine n_putZ dX4_payForAll_16 fX4_66 rfl hW1 (vld_pe hk (by omega)) rfl hv ?_
    refine g_iinc_2 (v := nI (j + 1)) dX4_payForAll_19 rfl (nI_inc j) ?_
    refine g_goto (tgt := 2) dX4_payForAll_22 (by decide) ?_
    exact ih hjn _ (hh.step1 hjn (fun f hf => rfl))
set_option maxHeartbeats 4000000 in
set_option maxRecDepth 100000 in
theorem wp_X4_payForAll {E : Ev} {M : Mem} {Q : QT} (hW : Wi M) {k : Nat} (hk : k < 4) {S : Sc} (hR : RepC M k S) (hn : S.1 ≤ 10) {v : Int32} (hv : v = 0 ∨ v = 1) (h : ∀ M', FrI (Dk k) M M' → RepC M' k (payS S v) → Q none M') : Mth E 1 0 0 kX4_payForAll [vR (1, k, 0), vI v] M Q := by
  refine mth_of (by decide +kernel) [some (vR (1, k, 0)), some (vI v), none] (Nat.le_of_ble_eq_true rfl) rfl ?_
  refine g_iconst dX4_payForAll_0 (v := 0) (by decide) ?_
  refine g_istore_2 dX4_payForAll_1 rfl ?_
  exact lp_X4_payForAll hW hk hR hn hv h 0 (Nat.zero_le _) M (Half.z hR)
set_option maxHeartbeats 4000000 in
set_option maxRecDepth 100000 in
theorem lp_X4_dismissFrom {E : Ev} {M : Mem} {Q : QT} (hW : Wi M) {k : Nat} (hk : k < 4) {S : Sc} (hR : RepC M k S) (hn : S.1 ≤ 10) {t : Nat} {x1 : Int32} (h : ∀ M', FrI (Dk k) M M' → RepC M' k (disS S t) → Q none M') : ∀ j, j ≤ S.1 → t ≤ j → ∀ M1, Half M M1 k S (disS S t).2.2 j → G E (rm 1 0 0) kX4_dismissFrom (ZQ E Q 0 0) 0 0 6 [some (vR (1, k, 0)), some (vI x1), some (vI (nI j))] [] M1 := by
  refine up_loop S.1 (fun j hj ih htj M1 hh => ?_)
  have hW1 := hh.1.W hW
  have hsz : mI M1 (1, k, 0) 2 = nI S.1 := (hh.2.1 2).trans hR.1
  refine g_iload_n dX4_dismissFrom_6 rfl rfl ?_
  refine g_aloadR_n dX4_dismissFrom_7 rfl rfl ?_
  refine n_getI dX4_dismissFrom_8 fX4_35 rfl hW1 (vld_sc hk) (Or.inl rfl) ?_
  refine g_icmp_ge (tgt := 29) dX4_dismissFrom_11 (by decide) (fun c11 => ?_) (fun c11 => ?_)
  · have hjn := sz_ge hsz (by omega) (by omega) c11
    have hjn2 : j = S.1 := by omega
    refine g_vret dX4_dismissFrom_29 rfl ?_
    exact h _ hh.1 (hh.rep hjn2 hR)
  · have hjn := sz_lt hsz (by omega) (by omega) c11
    refine g_aloadR_n dX4_dismissFrom_14 rfl rfl ?_
    refine g_iload_n dX4_dismissFrom_15 rfl rfl ?_
    refine n_v1r (n' := 0) dX4_dismissFrom_16 mX4_one lX4_44 rfl hW1 (vld_sc hk) rfl rfl ⟨Nat.le_of_ble_eq_true rfl, Nat.le_of_ble_eq_true rfl⟩ ⟨Nat.zero_le _, Nat.zero_le _⟩ (Nat.le_of_ble_eq_true rfl) ?_
    refine wp_X4_oneN (by exact hW1) hk (show j < 10 by omega) ?_
    refine ⟨_, rfl, ?_⟩
    refine g_iconst dX4_dismissFrom_19 (v := 1) (by decide) ?_
    refine n_putZ dX4_dismissFrom_20 fX4_62 rfl hW1 (vld_pe hk (by omega)) rfl (Or.inr rfl) ?_
    refine g_iinc_2 (v := nI (j + 1)) dX4_dismissFrom_23 rfl (nI_inc j) ?_
    refine g_goto (tgt := 6) dX4_dismissFrom_26 (by decide) ?_
    exact ih hjn (by omega) _ (hh.step1 hjn (fun f hf => by simp only [disS]; by_cases q : f = 8; rw [if_pos q, if_pos ⟨q, htj⟩]; rw [if_neg q, if_neg (fun z => q z.1)]))
theorem Half.z2 {M : Mem} {k : Nat} {S : Sc} {F : Nat → Nat → Int32} {j : Nat} (hR : RepC M k S) (hF : ∀ i f, i < j → f < 9 → S.2.2 i f = F i f) : Half M M k S F j := ⟨FrI.rf, fun _ => rfl, fun i f hi hf => by
  rw [hR.2.2 i f hi hf]; by_cases q : i < j; rw [if_pos q]; exact hF i f q hf; rw [if_neg q]⟩
set_option maxHeartbeats 4000000 in
set_option maxRecDepth 100000 in
theorem wp_X4_dismissFrom {E : Ev} {M : Mem} {Q : QT} (hW : Wi M) {k : Nat} (hk : k < 4) {S : Sc} (hR : RepC M k S) (hn : S.1 ≤ 10) {t : Nat} (ht : t ≤ S.1) (h : ∀ M', FrI (Dk k) M M' → RepC M' k (disS S t) → Q none M') : Mth E 1 0 0 kX4_dismissFrom [vR (1, k, 0), vI (nI t)] M Q := by
  refine mth_of (by decide +kernel) [some (vR (1, k, 0)), some (vI (nI t)), none] (Nat.le_of_ble_eq_true rfl) rfl ?_
  refine g_iconst dX4_dismissFrom_0 (v := 0) (by decide) ?_
  refine g_iload_n dX4_dismissFrom_1 rfl rfl ?_
  refine n_mmax dX4_dismissFrom_2 lX4_56 ⟨Nat.le_of_ble_eq_true rfl, Nat.le_of_ble_eq_true rfl⟩ ⟨Nat.zero_le _, Nat.zero_le _⟩ ?_
  refine g_istore_2 dX4_dismissFrom_5 rfl ?_
  rw [show (if (0 : Int32) < nI t then nI t else 0) = nI t from by by_cases q : (0 : Int32) < nI t; rw [if_pos q]; rw [if_neg q]; have h1 := nI_toInt (n := t) (by omega); simp only [Int32.lt_iff_toInt_lt, zcs] at q; rw [show t = 0 by omega]; rfl]
  exact lp_X4_dismissFrom hW hk hR hn h t ht (Nat.le_refl _) M (Half.z2 hR (fun i f hi hf => by simp only [disS]; rw [if_neg (by omega)]))
def lkF (l : Int32) : Int32 := l * 1103515245 + 12345
def drF (l : Int32) : Int32 := ush (lkF l) 16 - ush (lkF l) 16 / 10 * 10
set_option maxHeartbeats 4000000 in
set_option maxRecDepth 100000 in
theorem wp_X4_draw {E : Ev} {M : Mem} {Q : QT} (hW : Wi M) {k : Nat} (hk : k < 4) (h : Q (some (vI (drF (mI M (1, k, 0) 8)))) (sI M (1, k, 0) 8 (lkF (mI M (1, k, 0) 8)))) : Mth E 0 0 0 kX4_draw [vR (1, k, 0), vI 10] M Q := by
  refine mth_of (by decide +kernel) [some (vR (1, k, 0)), some (vI 10)] (Nat.le_of_ble_eq_true rfl) rfl ?_
  refine g_aloadR_n dX4_draw_0 rfl rfl ?_
  refine g_aloadR_n dX4_draw_1 rfl rfl ?_
  refine n_getI dX4_draw_2 fX4_32 rfl hW (vld_sc hk) (Or.inl rfl) ?_
  refine g_ldc dX4_draw_5 qX4_112 ?_
  refine g_imul dX4_draw_7 ?_
  refine g_sipush dX4_draw_8 (v := 12345) (by decide) ?_
  refine g_iadd dX4_draw_11 ?_
  refine n_putI dX4_draw_12 fX4_32 rfl hW (vld_sc hk) rfl ?_
  refine g_iload_n dX4_draw_15 rfl rfl ?_
  refine g_if_le (tgt := 31) dX4_draw_16 (by decide) (fun c16 => ?_) (fun c16 => ?_)
  · exact absurd c16 (by decide)
  · refine g_aloadR_n dX4_draw_19 rfl rfl ?_
    refine n_getI dX4_draw_20 fX4_32 rfl hW (vld_sc hk) (Or.inl rfl) ?_
    refine g_bipush dX4_draw_23 (v := 16) (by decide) ?_
    refine g_iushr dX4_draw_25 ?_
    refine g_iload_n dX4_draw_26 rfl rfl ?_
    refine g_irem dX4_draw_27 (by decide) ?_
    refine g_goto (tgt := 32) dX4_draw_28 (by decide) ?_
    refine g_iret dX4_draw_32 rfl ?_
    refine qI h ?_
    have e : ∀ x, mI (sI M (1, k, 0) 8 x) (1, k, 0) 8 = x := fun x => by simp [mI, sI]
    rw [e]; rfl
