/-! THE REFERENCE: A SCHOOL READ -/
theorem DN_DK : ∀ b f, DN b f → DK b f := fun b f h => DF_DK b f (DN_DF b f h)
theorem wx_0 {L : Tx} {p : Nat} (h : mt L (jsB 0) p = 6) : wIx L p = 0 := by
  refine (wIx_at (by decide)).mp (Classical.byContradiction (fun q => ?_))
  rw [mt_z q] at h; cases h
theorem rdWord_0 {L : Tx} {p : Nat} (h : mt L (jsB 0) p = 6) : rdWord L p = .inr (0, p + 6) := by
  unfold rdWord
  rw [wx_0 h, if_neg (by decide), if_pos (show mt L (jsB 0) p = (jsB 0).length from h)]
  rfl
theorem rdWord_w0 {L : Tx} {p w q : Nat} (h : rdWord L p = .inr (w, q)) : w < 7 ∧ (w = 0 → mt L (jsB 0) p = 6) := by
  unfold rdWord at h
  have hle := wIx_le7 L p
  by_cases c : wIx L p = 7
  · rw [if_pos c] at h; cases h
  · rw [if_neg c] at h
    by_cases c2 : mt L (jsB (wIx L p)) p = (jsB (wIx L p)).length
    · rw [if_pos c2] at h
      injection h with h; injection h with h1 h2
      refine ⟨by omega, fun hw => ?_⟩
      rw [h1, hw] at c2; exact c2
    · rw [if_neg c2] at h; cases h
theorem rdItem_a {L : Tx} {S : Sc} {p : Nat} (h1 : S.1 = 10) (h2 : mt L (jsB 0) p = 6) : rdItem L S p = .inl p := by
  unfold rdItem
  rw [rdWord_0 h2]
  show rdBody L S p 0 (p + 6) = .inl p
  unfold rdBody
  rw [if_pos rfl, if_pos h1]
def rdBd (L : Tx) (S : Sc) (w q : Nat) : Nat ⊕ (Sc × Nat) := if w = 0 then rdPer L S q else if w = 1 then rdFri L S q else if w = 2 then rdGon L S q else rdSet L S (w - 3) q
theorem rdBody_bd {L : Tx} {S : Sc} {p w q : Nat} (h : w = 0 → ¬ S.1 = 10) : rdBody L S p w q = rdBd L S w q := by
  unfold rdBody rdBd
  by_cases c : w = 0
  · rw [if_pos c, if_pos c, if_neg (h c)]
  · rw [if_neg c, if_neg c]
theorem rdItem_c {L : Tx} {S : Sc} {p w q : Nat} (hn : ¬ (S.1 = 10 ∧ mt L (jsB 0) p = 6)) (h : rdWB L p = .inr (w, q)) : rdItem L S p = rdBd L S w q ∧ (w = 0 → ¬ S.1 = 10) := by
  unfold rdWB at h
  cases e : rdWord L p with
  | inl f => rw [e] at h; cases h
  | inr z =>
    obtain ⟨w', q'⟩ := z
    rw [e] at h
    dsimp only at h
    by_cases c : L q' = 32
    · rw [if_pos c] at h
      injection h with h; injection h with h1 h2
      subst h1 h2
      have hw := rdWord_w0 e
      have h0 : w' = 0 → ¬ S.1 = 10 := fun z y => hn ⟨y, hw.2 z⟩
      refine ⟨?_, h0⟩
      unfold rdItem
      rw [e]
      exact rdBody_bd h0
    · rw [if_neg c] at h; cases h
theorem rdItem_b {L : Tx} {S : Sc} {p f : Nat} (hn : ¬ (S.1 = 10 ∧ mt L (jsB 0) p = 6)) (h : rdWB L p = .inl f) : rdItem L S p = .inl f := by
  unfold rdWB at h
  unfold rdItem
  cases e : rdWord L p with
  | inl f' => rw [e] at h; injection h with h; rw [h]
  | inr z =>
    obtain ⟨w, q⟩ := z
    rw [e] at h
    dsimp only at h ⊢
    by_cases c : L q = 32
    · rw [if_pos c] at h; cases h
    · rw [if_neg c] at h
      injection h with h; subst h
      have hw := rdWord_w0 e
      rw [rdBody_bd (fun z y => hn ⟨y, hw.2 z⟩)]
      have hr : ∀ lo hi, rdNum L q lo hi = .inl q := fun lo hi => by unfold rdNum; rw [if_neg c]
      unfold rdBd
      by_cases c0 : w = 0
      · rw [if_pos c0]; simp only [rdPer, hr]
      · rw [if_neg c0]
        by_cases c1 : w = 1
        · rw [if_pos c1]; simp only [rdFri, hr]
        · rw [if_neg c1]
          by_cases c2 : w = 2
          · rw [if_pos c2]; simp only [rdGon, hr]
          · rw [if_neg c2]; simp only [rdSet, hr]
set_option maxHeartbeats 4000000 in
set_option maxRecDepth 100000 in
theorem wp_X7_item {E : Ev} {M : Mem} {Q : QT} (hW : Wi M) {L : Tx} {s ll p : Nat} {S : Sc} (hk : RkS M L s ll p S) (hs : s < 8) (ht : TxOk L ll) (hp : p ≤ 160) (hO : OkS S) (H : ∀ r M' x, rdItem L S p = x → BoM L s ll M M' r x → Q (some (vI r)) M') : Mth E 3 0 0 kX7_item [vR (20, 0, 0)] M Q := by
  have ht1 := ht.1
  have hs10 := hO.1
  have hsz := hk.2.2.2.2.1.1
  refine mth_of (by decide +kernel) [some (vR (20, 0, 0)), none, none, none] (Nat.le_of_ble_eq_true rfl) rfl ?_
  refine g_aloadR_n dX7_item_0 rfl rfl ?_
  refine n_getI dX7_item_1 fX7_102 rfl hW vld_x20 (Or.inl rfl) ?_
  refine g_bipush dX7_item_4 (v := 10) (by decide) ?_
  refine g_icmp_ne (tgt := 25) dX7_item_6 (by decide) (fun c6 => ?_) (fun c6 => ?_)
  · rw [hsz] at c6
    have hnp : ¬ (S.1 = 10 ∧ mt L (jsB 0) p = 6) := fun z => c6 (by rw [z.1]; rfl)
    refine g_aloadR_n dX7_item_25 rfl rfl ?_
    refine n_v0i (n' := 1) dX7_item_26 mX7_word lX7_169 rfl hW vld_x20 rfl rfl ⟨Nat.le_of_ble_eq_true rfl, Nat.le_of_ble_eq_true rfl⟩ ⟨Nat.zero_le _, Nat.zero_le _⟩ (Nat.le_of_ble_eq_true rfl) ?_
    refine wp_X7_word hW hk hs ht hp (fun f hf M1 hf1 h32 => ?_) (fun w q hr hw hL M1 hf1 hk1 => ?_)
    · refine ⟨_, rfl, ?_⟩
      refine g_istore_1 dX7_item_29 rfl ?_
      refine g_iload_n dX7_item_30 rfl rfl ?_
      refine g_iconst dX7_item_31 (v := (-1)) (by decide) ?_
      refine g_icmp_ne (tgt := 37) dX7_item_32 (by decide) (fun z => absurd rfl z) (fun _ => ?_)
      refine g_iconst dX7_item_35 (v := 0) (by decide) ?_
      refine g_zret dX7_item_36 rfl (Or.inl rfl) ?_
      exact H 0 M1 (.inl f) (rdItem_b hnp hf) ⟨hf1.mono DN_DK, rfl, h32⟩
    refine ⟨_, rfl, ?_⟩
    have hW1 := hf1.W hW
    obtain ⟨e, he0⟩ := rdItem_c hnp hr
    have hq1 : q + 1 ≤ 160 := by have := ht.lt (p := q) (by rw [hL]; decide); omega
    have hnn : ¬ nI (mwI w) = -1 := fun z => by
      have h1 := congrArg Int32.toInt z
      rw [nI_toInt (by have := (wd_f3 w hw).1; omega)] at h1; simp only [zcs] at h1; omega
    refine g_istore_1 dX7_item_29 rfl ?_
    refine g_iload_n dX7_item_30 rfl rfl ?_
    refine g_iconst dX7_item_31 (v := (-1)) (by decide) ?_
    refine g_icmp_ne (tgt := 37) dX7_item_32 (by decide) (fun _ => ?_) (fun z => absurd (by first | exact z | exact Decidable.not_not.mp z) hnn)
    have q7 : w = 0 ∨ w = 1 ∨ w = 2 ∨ w = 3 ∨ w = 4 ∨ w = 5 ∨ w = 6 := by omega
    rcases q7 with rfl | rfl | rfl | rfl | rfl | rfl | rfl
    · exact lp_X7_itP hW1 hO hk1 hs ht hq1 hL (by have := he0 rfl; omega) (fun r M' x hx hB => H r M' x (e.trans hx) ⟨(hf1.mono DN_DK).tr hB.1, hB.2⟩)
    · exact lp_X7_itF hW1 hO hk1 hs ht hq1 hL (fun r M' x hx hB => H r M' x (e.trans hx) ⟨(hf1.mono DN_DK).tr hB.1, hB.2⟩)
    · exact lp_X7_itG hW1 hO hk1 hs ht hq1 hL (fun r M' x hx hB => H r M' x (e.trans hx) ⟨(hf1.mono DN_DK).tr hB.1, hB.2⟩)
    · exact lp_X7_itS0 hW1 hO hk1 hs ht hq1 hL (fun r M' x hx hB => H r M' x (e.trans hx) ⟨(hf1.mono DN_DK).tr hB.1, hB.2⟩)
    · exact lp_X7_itS1 hW1 hO hk1 hs ht hq1 hL (fun r M' x hx hB => H r M' x (e.trans hx) ⟨(hf1.mono DN_DK).tr hB.1, hB.2⟩)
    · exact lp_X7_itS2 hW1 hO hk1 hs ht hq1 hL (fun r M' x hx hB => H r M' x (e.trans hx) ⟨(hf1.mono DN_DK).tr hB.1, hB.2⟩)
    · exact lp_X7_itS3 hW1 hO hk1 hs ht hq1 hL (fun r M' x hx hB => H r M' x (e.trans hx) ⟨(hf1.mono DN_DK).tr hB.1, hB.2⟩)
  · rw [hsz] at c6
    have hs1 : S.1 = 10 := by
      have c6 : nI S.1 = nI 10 := by first | exact c6 | exact Decidable.not_not.mp c6
      exact (nI_eq (by omega) (by omega)).mp c6
    refine g_aloadR_n dX7_item_9 rfl rfl ?_
    refine n_v0i (n' := 1) dX7_item_10 mX7_isPerson lX7_166 rfl hW vld_x20 rfl rfl ⟨Nat.le_of_ble_eq_true rfl, Nat.le_of_ble_eq_true rfl⟩ ⟨Nat.zero_le _, Nat.zero_le _⟩ (Nat.le_of_ble_eq_true rfl) ?_
    refine wp_X7_isPerson (by exact hW) hk hs ht hp ?_
    refine ⟨_, rfl, ?_⟩
    refine g_if_eq (tgt := 25) dX7_item_13 (by decide) (fun c13 => ?_) (fun c13 => ?_)
    · simp only [b2_0, Decidable.not_not] at c13
      have hnp : ¬ (S.1 = 10 ∧ mt L (jsB 0) p = 6) := fun z => c13 z.2
      refine g_aloadR_n dX7_item_25 rfl rfl ?_
      refine n_v0i (n' := 1) dX7_item_26 mX7_word lX7_169 rfl hW vld_x20 rfl rfl ⟨Nat.le_of_ble_eq_true rfl, Nat.le_of_ble_eq_true rfl⟩ ⟨Nat.zero_le _, Nat.zero_le _⟩ (Nat.le_of_ble_eq_true rfl) ?_
      refine wp_X7_word hW hk hs ht hp (fun f hf M1 hf1 h32 => ?_) (fun w q hr hw hL M1 hf1 hk1 => ?_)
      · refine ⟨_, rfl, ?_⟩
        refine g_istore_1 dX7_item_29 rfl ?_
        refine g_iload_n dX7_item_30 rfl rfl ?_
        refine g_iconst dX7_item_31 (v := (-1)) (by decide) ?_
        refine g_icmp_ne (tgt := 37) dX7_item_32 (by decide) (fun z => absurd rfl z) (fun _ => ?_)
        refine g_iconst dX7_item_35 (v := 0) (by decide) ?_
        refine g_zret dX7_item_36 rfl (Or.inl rfl) ?_
        exact H 0 M1 (.inl f) (rdItem_b hnp hf) ⟨hf1.mono DN_DK, rfl, h32⟩
      refine ⟨_, rfl, ?_⟩
      have hW1 := hf1.W hW
      obtain ⟨e, he0⟩ := rdItem_c hnp hr
      have hq1 : q + 1 ≤ 160 := by have := ht.lt (p := q) (by rw [hL]; decide); omega
      have hnn : ¬ nI (mwI w) = -1 := fun z => by
        have h1 := congrArg Int32.toInt z
        rw [nI_toInt (by have := (wd_f3 w hw).1; omega)] at h1; simp only [zcs] at h1; omega
      refine g_istore_1 dX7_item_29 rfl ?_
      refine g_iload_n dX7_item_30 rfl rfl ?_
      refine g_iconst dX7_item_31 (v := (-1)) (by decide) ?_
      refine g_icmp_ne (tgt := 37) dX7_item_32 (by decide) (fun _ => ?_) (fun z => absurd (by first | exact z | exact Decidable.not_not.mp z) hnn)
      have q7 : w = 0 ∨ w = 1 ∨ w = 2 ∨ w = 3 ∨ w = 4 ∨ w = 5 ∨ w = 6 := by omega
      rcases q7 with rfl | rfl | rfl | rfl | rfl | rfl | rfl
      · exact lp_X7_itP hW1 hO hk1 hs ht hq1 hL (by have := he0 rfl; omega) (fun r M' x hx hB => H r M' x (e.trans hx) ⟨(hf1.mono DN_DK).tr hB.1, hB.2⟩)
      · exact lp_X7_itF hW1 hO hk1 hs ht hq1 hL (fun r M' x hx hB => H r M' x (e.trans hx) ⟨(hf1.mono DN_DK).tr hB.1, hB.2⟩)
      · exact lp_X7_itG hW1 hO hk1 hs ht hq1 hL (fun r M' x hx hB => H r M' x (e.trans hx) ⟨(hf1.mono DN_DK).tr hB.1, hB.2⟩)
      · exact lp_X7_itS0 hW1 hO hk1 hs ht hq1 hL (fun r M' x hx hB => H r M' x (e.trans hx) ⟨(hf1.mono DN_DK).tr hB.1, hB.2⟩)
      · exact lp_X7_itS1 hW1 hO hk1 hs ht hq1 hL (fun r M' x hx hB => H r M' x (e.trans hx) ⟨(hf1.mono DN_DK).tr hB.1, hB.2⟩)
      · exact lp_X7_itS2 hW1 hO hk1 hs ht hq1 hL (fun r M' x hx hB => H r M' x (e.trans hx) ⟨(hf1.mono DN_DK).tr hB.1, hB.2⟩)
      · exact lp_X7_itS3 hW1 hO hk1 hs ht hq1 hL (fun r M' x hx hB => H r M' x (e.trans hx) ⟨(hf1.mono DN_DK).tr hB.1, hB.2⟩)
    · simp only [b2_0, Decidable.not_not] at c13
      refine g_aloadR_n dX7_item_16 rfl rfl ?_
      refine g_aloadR_n dX7_item_17 rfl rfl ?_
      refine n_getI dX7_item_18 fX7_147 rfl hW vld_x20 (Or.inl rfl) ?_
      rw [hk.2.1]
      refine n_v1i (n' := 0) dX7_item_21 mX7_wrong lX7_163 rfl hW vld_x20 rfl rfl ⟨Nat.le_of_ble_eq_true rfl, Nat.le_of_ble_eq_true rfl⟩ ⟨Nat.zero_le _, Nat.zero_le _⟩ (Nat.le_of_ble_eq_true rfl) ?_
      refine wp_X7_wrong (by exact hW) ?_
      refine ⟨_, rfl, ?_⟩
      refine g_zret dX7_item_24 rfl (Or.inl rfl) ?_
      exact H 0 _ (.inl p) (rdItem_a hs1 c13) ⟨(frN (by decide) (by decide)).mono DN_DK, rfl, by simp [mI, sI]⟩
theorem RepMo.flt {M : Mem} {X : Sys} {x : Int32} (h : RepMo M X) : RepMo (sI M (20, 0, 0) 7 x) (setF X x) := by
  obtain ⟨h1, h2, h3, h4, h5, h6, h7⟩ := h
  have hA : ∀ j i, mI (sI M (20, 0, 0) 7 x) (21, j, 0) i = mI M (21, j, 0) i := fun j i => congrFun (sI_hk _ (by intro q; cases q)).1 i
  have hB : ∀ f, f ≠ 7 → mI (sI M (20, 0, 0) 7 x) (20, 0, 0) f = mI M (20, 0, 0) f := fun f hf => by simp [mI, sI, hf]
  refine ⟨h1.q (by decide), ?_, fun s hs => ?_, fun j a b => (hA 0 j).trans (h4 j a b), by simp [mI, sI, setF], ⟨(hB 48 (by decide)).trans h6.1, fun i a b => (hA _ _).trans (h6.2 i a b)⟩, fun j hj => (hA _ _).trans (h7.1 j hj), fun j hj => (hA _ _).trans (h7.2.1 j hj), fun j hj => (hA _ _).trans (h7.2.2 j hj)⟩
  · show RepImM _ (xI X)
    revert h2
    cases xI X with
    | none => exact fun h2 => (hB 49 (by decide)).trans h2
    | some S => exact fun h2 => ⟨(hB 49 (by decide)).trans h2.1, (hA _ _).trans h2.2.1, fun j a b => (hA _ _).trans (h2.2.2.1 j a b), fun i f a b => (hA _ _).trans (h2.2.2.2 i f a b)⟩
  · obtain ⟨g1, g2, g3⟩ := h3 s hs
    exact ⟨(hA _ _).trans g1, fun q => ⟨(hA _ _).trans (g2 q).1, (hA _ _).trans (g2 q).2.1, (g2 q).2.2⟩, fun q => (hA _ _).trans (g3 q)⟩
set_option maxHeartbeats 4000000 in
set_option maxRecDepth 100000 in
theorem lp_X7_schoolF {E : Ev} {M0 M : Mem} {Q : QT} (hW : Wi M) {X : Sys} (hX : RepMo M0 X) (hO : OkX X) (hSv : RepSv M 20 (xS X)) (hf : FrI DK M0 M) {f : Nat} (h32 : mI M (20, 0, 0) 32 = nI f) (h : ∀ M', FrM M0 M' → RepMo M' (rfX (setF X (nI f)) 6).2 → Q (some (vI (rfX (setF X (nI f)) 6).1)) M') {s1 b1 : Int32} {a3 a4 : Option AV} : G E (rm 4 0 0) kX7_school (ZQ E Q 0 0) 0 0 133 [some (vR (20, 0, 0)), some (vI s1), some (vI b1), a3, a4] [] M := by
  
  refine g_aloadR_n dX7_school_133 rfl rfl ?_
  refine g_aloadR_n dX7_school_134 rfl rfl ?_
  refine n_getR dX7_school_135 fX7_87 rfl hW vld_x20 rfl rfl ?_
  refine g_iconst dX7_school_138 (v := 1) (by decide) ?_
  refine n_v2v (n' := 1) dX7_school_139 mX7_all lX7_189 rfl hW vld_x20 rfl rfl ⟨Nat.le_of_ble_eq_true rfl, Nat.le_of_ble_eq_true rfl⟩ ⟨Nat.zero_le _, Nat.zero_le _⟩ (Nat.le_of_ble_eq_true rfl) ?_
  refine wp_X7_all1 (b := 20) (by exact hW) (Or.inl rfl) hSv hO.1 (fun M1 hf1 hR1 => ?_)
  have hW1 := hf1.W (by exact hW)
  have e32 : mI M1 (20, 0, 0) 32 = nI f := (hf1.2 _ _ (fun z => by rcases z with z | z; (have := z.2; omega); cases z.1)).trans h32
  have hdm := (hf.mono DK_DM).tr (hf1.mono DS_DM)
  have hX1 := hX.dm hdm hR1
  refine ⟨rfl, ?_⟩
  refine g_aloadR_n dX7_school_142 rfl rfl ?_
  refine g_aloadR_n dX7_school_143 rfl rfl ?_
  refine n_getI dX7_school_144 fX7_141 rfl hW1 vld_x20 (Or.inl rfl) ?_
  rw [e32]
  refine n_putI dX7_school_147 fX7_22 rfl hW1 vld_x20 rfl ?_
  refine g_aloadR_n dX7_school_150 rfl rfl ?_
  refine g_bipush dX7_school_151 (v := (-6)) (by decide) ?_
  refine n_v1i (n' := 0) dX7_school_153 mX7_no lX7_109 rfl hW1 vld_x20 rfl rfl ⟨Nat.le_of_ble_eq_true rfl, Nat.le_of_ble_eq_true rfl⟩ ⟨Nat.zero_le _, Nat.zero_le _⟩ (Nat.le_of_ble_eq_true rfl) ?_
  refine wp_X7_no (j := 6) (by exact hW1) (by decide) (by decide) ?_
  refine ⟨_, rfl, ?_⟩
  refine g_iret dX7_school_156 rfl ?_
  exact h _ (((frM_DM hdm).tr (frM_sI (by decide))).tr (frM_sI (by decide))) (repMo_rfm (j := 6) (hX1.flt (x := nI f)) (by decide) (by decide))
set_option maxHeartbeats 4000000 in
set_option maxRecDepth 100000 in
theorem lp_X7_school0 {E : Ev} {M : Mem} {Q : QT} {s1 b1 : Int32} {it : Nat} (hF : G E (rm 4 0 0) kX7_school (ZQ E Q 0 0) 0 0 133 [some (vR (20, 0, 0)), some (vI s1), some (vI b1), some (vI (nI it)), some (vI 0)] [] M) : G E (rm 4 0 0) kX7_school (ZQ E Q 0 0) 0 0 62 [some (vR (20, 0, 0)), some (vI s1), some (vI b1), some (vI (nI it)), some (vI 0)] [] M := by
  
  refine g_iload dX7_school_62 rfl ?_
  refine g_if_eq (tgt := 126) dX7_school_64 (by decide) (fun c64 => ?_) (fun c64 => ?_)
  · refine g_iload dX7_school_126 rfl ?_
    refine g_if_eq (tgt := 133) dX7_school_128 (by decide) (fun c128 => ?_) (fun c128 => ?_)
    · exact hF
    · exact absurd c128 (by decide)
  · exact absurd c64 (by decide)
set_option maxHeartbeats 4000000 in
set_option maxRecDepth 100000 in
theorem lp_X7_school {E : Ev} {M0 : Mem} {Q : QT} (hW0 : Wi M0) {L : Tx} {s ll : Nat} (hs : s < 8) (ht : TxOk L ll) {R : Nat ⊕ (Nat × Sc)} {s1 b1 : Int32} (hF : ∀ f, R = .inl f → ∀ M' a3 a4, FrI DK M0 M' → mI M' (20, 0, 0) 32 = nI f → G E (rm 4 0 0) kX7_school (ZQ E Q 0 0) 0 0 133 [some (vR (20, 0, 0)), some (vI s1), some (vI b1), a3, a4] [] M') (hS : ∀ it S', R = .inr (it, S') → ∀ M', FrI DK M0 M' → RepR M' S' → Q (some (vI (nI it))) M') : ∀ d p it S1 M3 r x, rdItem L S1 p = x → BoM L s ll M0 M3 r x → OkS S1 → it + d = 160 → 2 * it ≤ p + 2 → p ≤ 160 → rdAll L ll (d + 1) S1 p it = R → G E (rm 4 0 0) kX7_school (ZQ E Q 0 0) 0 0 62 [some (vR (20, 0, 0)), some (vI s1), some (vI b1), some (vI (nI it)), some (vI r)] [] M3 := by
  have ht1 := ht.1
  intro d
  induction d using Nat.strongRecOn with
  | _ d ih =>
  intro p it S1 M3 r x hx hB hO1 hit hp2 hp hR
  have hR1 : rdAll L ll (d + 1) S1 p it = match rdItem L S1 p with | .inl f => .inl f | .inr (S', q) => if ll ≤ q then .inr (it, S') else if L q = 59 then rdAll L ll d S' (q + 1) (it + 1) else .inl q := rfl
  rw [hx] at hR1
  obtain ⟨hf3, hB2⟩ := hB
  have hW3 := hf3.W hW0
  cases x with
  | inl f =>
    obtain ⟨rfl, h32⟩ := hB2
    refine lp_X7_school0 (hF f (hR.symm.trans hR1) _ _ _ hf3 h32)
  | inr z =>
    obtain ⟨S', q⟩ := z
    obtain ⟨rfl, hq160, hk3⟩ := hB2
    have hok := rdItem_ok ht hO1 hx
    have hpl := hk3.2.1
    have hll := hk3.2.2.1
    dsimp only at hR1
    refine g_iload dX7_school_62 rfl ?_
    refine g_if_eq (tgt := 126) dX7_school_64 (by decide) (fun c64 => ?_) (fun c64 => ?_)
    · exact absurd c64 (by decide)
    · refine g_aloadR_n dX7_school_67 rfl rfl ?_
      refine n_getI dX7_school_68 fX7_147 rfl hW3 vld_x20 (Or.inl rfl) ?_
      refine g_aloadR_n dX7_school_71 rfl rfl ?_
      refine n_getI dX7_school_72 fX7_150 rfl hW3 vld_x20 (Or.inl rfl) ?_
      refine g_icmp_ge (tgt := 126) dX7_school_75 (by decide) (fun c75 => ?_) (fun c75 => ?_)
      · rw [hpl, hll, nI_leI (by omega) (by omega)] at c75
        refine g_iload dX7_school_126 rfl ?_
        refine g_if_eq (tgt := 133) dX7_school_128 (by decide) (fun c128 => ?_) (fun c128 => ?_)
        · exact absurd c128 (by decide)
        · refine g_iload_n dX7_school_131 rfl rfl ?_
          refine g_iret dX7_school_132 rfl ?_
          exact hS it S' (by rw [← hR, hR1, if_pos (by omega)]) M3 hf3 hk3.2.2.2.2.1
      · rw [hpl, hll, nI_leI (by omega) (by omega)] at c75
        refine g_aloadR_n dX7_school_78 rfl rfl ?_
        refine g_aloadR_n dX7_school_79 rfl rfl ?_
        refine n_getI dX7_school_80 fX7_147 rfl hW3 vld_x20 (Or.inl rfl) ?_
        rw [hpl]
        refine n_v1i (n' := 0) dX7_school_83 mX7_sign lX7_153 rfl hW3 vld_x20 rfl rfl ⟨Nat.le_of_ble_eq_true rfl, Nat.le_of_ble_eq_true rfl⟩ ⟨Nat.zero_le _, Nat.zero_le _⟩ (Nat.le_of_ble_eq_true rfl) ?_
        refine wp_X7_sign (by exact hW3) hk3.1 (i := q) rfl hs (by omega) ?_
        refine ⟨_, rfl, ?_⟩
        rw [hk3.2.2.2.1 q (by omega)]
        refine g_bipush dX7_school_86 (v := 59) (by decide) ?_
        refine g_icmp_eq (tgt := 104) dX7_school_88 (by decide) (fun c88 => ?_) (fun c88 => ?_)
        · refine g_aloadR_n dX7_school_104 rfl rfl ?_
          refine g_dup dX7_school_105 rfl ?_
          refine n_getI dX7_school_106 fX7_147 rfl hW3 vld_x20 (Or.inl rfl) ?_
          refine g_iconst dX7_school_109 (v := 1) (by decide) ?_
          refine g_iadd dX7_school_110 ?_
          rw [hpl, nI_1]
          refine n_putI dX7_school_111 fX7_147 rfl hW3 vld_x20 rfl ?_
          refine g_iinc_3 (v := nI (it + 1)) dX7_school_114 rfl (nI_inc it) ?_
          obtain ⟨d', hd'⟩ : ∃ d', d = d' + 1 := ⟨d - 1, by omega⟩
          subst hd'
          have c88 : L q = 59 := by first | exact c88 | exact Decidable.not_not.mp c88
          have hk4 : RkS (sI M3 (20, 0, 0) 29 (nI (q + 1))) L s ll (q + 1) S' := hk3.at_
          have hf4 : FrI DK M0 (sI M3 (20, 0, 0) 29 (nI (q + 1))) := hf3.tr ((frN (by decide) (by decide)).mono DN_DK)
          have hRn : rdAll L ll (d' + 1) S' (q + 1) (it + 1) = R := by rw [← hR, hR1, if_neg (by omega), if_pos c88]
          refine g_aloadR_n dX7_school_117 rfl rfl ?_
          refine n_v0i (n' := 3) dX7_school_118 mX7_item lX7_193 rfl (by exact hW3) vld_x20 rfl rfl ⟨Nat.le_of_ble_eq_true rfl, Nat.le_of_ble_eq_true rfl⟩ ⟨Nat.zero_le _, Nat.zero_le _⟩ (Nat.le_of_ble_eq_true rfl) ?_
          refine wp_X7_item (by exact hW3) hk4 hs ht (by omega) hok.1 (fun r' M5 x' hx' hB' => ?_)
          refine ⟨_, rfl, ?_⟩
          refine g_istore_4 dX7_school_121 rfl ?_
          refine g_goto (tgt := 62) dX7_school_123 (by decide) ?_
          exact ih d' (by omega) (q + 1) (it + 1) S' M5 r' x' hx' ⟨hf4.tr hB'.1, hB'.2⟩ hok.1 (by omega) (by omega) (by omega) hRn
        · refine g_aloadR_n dX7_school_91 rfl rfl ?_
          refine g_aloadR_n dX7_school_92 rfl rfl ?_
          refine n_getI dX7_school_93 fX7_147 rfl hW3 vld_x20 (Or.inl rfl) ?_
          rw [hpl]
          refine n_v1i (n' := 0) dX7_school_96 mX7_wrong lX7_163 rfl hW3 vld_x20 rfl rfl ⟨Nat.le_of_ble_eq_true rfl, Nat.le_of_ble_eq_true rfl⟩ ⟨Nat.zero_le _, Nat.zero_le _⟩ (Nat.le_of_ble_eq_true rfl) ?_
          refine wp_X7_wrong (by exact hW3) ?_
          refine ⟨_, rfl, ?_⟩
          refine g_istore_4 dX7_school_99 rfl ?_
          refine g_goto (tgt := 62) dX7_school_101 (by decide) ?_
          refine lp_X7_school0 (hF q (by rw [← hR, hR1, if_neg (by omega), if_neg c88]) _ _ _ (hf3.tr ((frN (by decide) (by decide)).mono DN_DK)) (by simp [mI, sI]))
set_option maxHeartbeats 4000000 in
set_option maxRecDepth 100000 in
theorem wp_X7_school {E : Ev} {M : Mem} {Q : QT} (hW : Wi M) {X : Sys} (hX : RepMo M X) (hO : OkX X) {s : Int32} (h : ∀ M', FrM M M' → RepMo M' (opSchool X s).2 → Q (some (vI (opSchool X s).1)) M') : Mth E 4 0 0 kX7_school [vR (20, 0, 0), vI s] M Q := by
  refine mth_of (by decide +kernel) [some (vR (20, 0, 0)), some (vI s), none, none, none] (Nat.le_of_ble_eq_true rfl) rfl ?_
  refine g_aloadR_n dX7_school_0 rfl rfl ?_
  refine g_iload_n dX7_school_1 rfl rfl ?_
  refine n_v1i (n' := 1) dX7_school_2 mX7_wanted lX7_186 rfl hW vld_x20 rfl rfl ⟨Nat.le_of_ble_eq_true rfl, Nat.le_of_ble_eq_true rfl⟩ ⟨Nat.zero_le _, Nat.zero_le _⟩ (Nat.le_of_ble_eq_true rfl) ?_
  refine wp_X7_wanted (by exact hW) hX hO ?_
  refine ⟨_, rfl, ?_⟩
  refine g_istore_2 dX7_school_5 rfl ?_
  refine g_iload_n dX7_school_6 rfl rfl ?_
  refine g_if_eq (tgt := 16) dX7_school_7 (by decide) (fun c7 => ?_) (fun c7 => ?_)
  · have w0 := (ng_0 (wnr_lt X s)).mp c7
    obtain ⟨hin, hv1⟩ := wnr_0 w0
    obtain ⟨hs1, hs2⟩ := IN_nI hin
    have hs8 := hin
    have hsv := shV_in (X := X) hin
    have hsf := hX.2.2.1 _ hs2
    have hv2 : (xH X s.toNatClampNeg).1 = 1 := by rw [← hsv]; exact hv1
    refine g_aloadR_n dX7_school_16 rfl rfl ?_
    refine g_aloadR_n dX7_school_17 rfl rfl ?_
    refine n_getR dX7_school_18 fX7_87 rfl hW vld_x20 rfl rfl ?_
    refine g_iconst dX7_school_21 (v := 0) (by decide) ?_
    refine n_v2v (n' := 1) dX7_school_22 mX7_all lX7_189 rfl hW vld_x20 rfl rfl ⟨Nat.le_of_ble_eq_true rfl, Nat.le_of_ble_eq_true rfl⟩ ⟨Nat.zero_le _, Nat.zero_le _⟩ (Nat.le_of_ble_eq_true rfl) ?_
    refine wp_X7_all0 (b := 20) (by exact hW) hX.1 hO.1 (Or.inl rfl) (fun M1 hf1 hS1 => ?_)
    have hW2 := hf1.W (by exact hW)
    have hR1 := hX.1.fr hf1 (fun j _ q => by cases q) (fun i f hf9 q => by injection q with _ q; injection q with q _; omega)
    have e12 : mI M1 (21, 12, 0) s.toNatClampNeg = nI (lenF (shV X s)) := (hf1.2 _ _ (fun z => by cases z)).trans (by rw [hsv, lenF_1 hv2]; exact (hsf.2.1 hv2).2.1)
    refine ⟨rfl, ?_⟩
    refine g_aloadR_n dX7_school_25 rfl rfl ?_
    refine g_sipush dX7_school_26 (v := 160) (by decide) ?_
    refine g_iload_n dX7_school_29 rfl rfl ?_
    refine g_imul dX7_school_30 ?_
    rw [show (160 : Int32) * s = nI (160 * s.toNatClampNeg) by rw [hs1, nI_clamp (by omega), show (160 : Int32) = nI 160 from rfl, pk_mul]]
    refine n_putI dX7_school_31 fX7_144 rfl hW2 vld_x20 rfl ?_
    refine g_aloadR_n dX7_school_34 rfl rfl ?_
    refine g_iconst dX7_school_35 (v := 0) (by decide) ?_
    refine n_putI dX7_school_36 fX7_147 rfl hW2 vld_x20 rfl ?_
    refine g_aloadR_n dX7_school_39 rfl rfl ?_
    refine g_aloadR_n dX7_school_40 rfl rfl ?_
    refine n_getR dX7_school_41 fX7_62 rfl hW2 vld_x20 rfl rfl ?_
    refine g_iload_n dX7_school_44 rfl rfl ?_
    refine n_iald (j := s.toNatClampNeg) dX7_school_45 rfl hW2 (vld_ma (by decide : 12 < 25)) (by decide) hs1 hs2 ?_
    refine g_top (fun z ez => ?_)
    have ez : z = nI (lenF (shV X s)) := ez.trans ((by simp [mI, sI] : _ = mI M1 (21, 12, 0) s.toNatClampNeg).trans e12)
    subst ez
    refine n_putI dX7_school_46 fX7_150 rfl hW2 vld_x20 rfl ?_
    refine g_aloadR_n dX7_school_49 rfl rfl ?_
    refine g_iconst dX7_school_50 (v := (-1)) (by decide) ?_
    refine n_putI dX7_school_51 fX7_22 rfl hW2 vld_x20 rfl ?_
    refine g_iconst dX7_school_54 (v := 1) (by decide) ?_
    refine g_istore_3 dX7_school_55 rfl ?_
    have hRX : opSchool X s = match rdAll (txL (shV X s)) (lenF (shV X s)) 160 (xS X) 0 1 with
      | .inl f => rfX (setF X (nI f)) 6
      | .inr (it, S') => (nI it, setS (setF X (-1)) S') := by
      unfold opSchool
      rw [if_neg (not_not_intro w0)]
      try (cases rdAll (txL (shV X s)) (lenF (shV X s)) 160 (xS X) 0 1 <;> rfl)
    have ho := hO.sh s
    have htx := txOk ho
    generalize hM2 : sI (sI (sI (sI M1 (20, 0, 0) 28 (nI (160 * s.toNatClampNeg))) (20, 0, 0) 29 0) (20, 0, 0) 30 (nI (lenF (shV X s)))) (20, 0, 0) 7 (-1) = M2
    have hX2 : RepMo M2 (setF X (-1)) := by
      rw [← hM2]
      refine RepMo.flt ?_
      have g1 : FrI DM M (sI (sI (sI M1 (20, 0, 0) 28 (nI (160 * s.toNatClampNeg))) (20, 0, 0) 29 0) (20, 0, 0) 30 (nI (lenF (shV X s)))) := (((hf1.mono (fun b f z => by subst z; exact Or.inr ⟨rfl, by simp⟩)).tr (fr_sI (Or.inl ⟨rfl, by simp⟩))).tr (fr_sI (Or.inl ⟨rfl, by simp⟩))).tr (fr_sI (Or.inl ⟨rfl, by simp⟩))
      exact hX.dm g1 (((hR1.q (by decide)).q (by decide)).q (by decide))
    have hfm2 : FrM M M2 := by
      rw [← hM2]
      exact ((((FrM.of hf1 (fun b f z => by subst z; decide)).tr (frM_sI (by decide))).tr (frM_sI (by decide))).tr (frM_sI (by decide))).tr (frM_sI (by decide))
    have hW2 := hfm2.W hW
    have hSv2 : RepSv M2 20 (xS X) := by rw [← hM2]; exact hS1.q.q.q.q
    have hk2 : RkS M2 (txL (shV X s)) s.toNatClampNeg (lenF (shV X s)) 0 (xS X) := by
      rw [← hM2]
      refine ⟨by simp [mI, sI], by simp [mI, sI, nI_0], by simp [mI, sI], fun i hi => ?_, (((hR1.q (by decide)).q (by decide)).q (by decide)).q (by decide), ?_⟩
      · have hl160 := ho.len
        have e := (hsf.2.1 hv2).2.2 i (by omega)
        have eJ : mJ M1 = mJ M := by unfold mJ; rw [hf1.1]
        show (mJ M1 (21, 14, 0) (160 * s.toNatClampNeg + i)).toInt32 = _
        rw [eJ, e]
        unfold txL
        rw [if_pos hi, hsv]
      · have hK := hX.2.2.2.2.2.2
        have eI : ∀ k j, (k = 16 ∨ k = 17 ∨ k = 18) → mI M1 (21, k, 0) j = mI M (21, k, 0) j := fun k j hk => hf1.2 _ _ (fun z => by injection z with _ z; injection z with z _; omega)
        exact ⟨fun j hj => (eI 16 j (by decide)).trans (hK.1 j hj), fun j hj => (eI 17 j (by decide)).trans (hK.2.1 j hj), fun j hj => (eI 18 j (by decide)).trans (hK.2.2 j hj)⟩
    have hOX2 : OkX (setF X (-1)) := hO
    refine g_aloadR_n dX7_school_56 rfl rfl ?_
    refine n_v0i (n' := 3) dX7_school_57 mX7_item lX7_193 rfl hW2 vld_x20 rfl rfl ⟨Nat.le_of_ble_eq_true rfl, Nat.le_of_ble_eq_true rfl⟩ ⟨Nat.zero_le _, Nat.zero_le _⟩ (Nat.le_of_ble_eq_true rfl) ?_
    refine wp_X7_item hW2 hk2 hs2 htx (by decide) hO.1 (fun r M3 x hx hB => ?_)
    refine ⟨_, rfl, ?_⟩
    refine g_istore_4 dX7_school_60 rfl ?_
    refine lp_X7_school hW2 hs2 htx (fun f hR M' a3 a4 hf h32 => ?_) (fun it S' hR M' hf hRn => ?_) 159 0 1 (xS X) M3 r x hx hB hO.1 (by decide) (by decide) (by decide) rfl
    · rw [hR] at hRX
      rw [hRX] at h
      exact lp_X7_schoolF (hf.W hW2) hX2 hOX2 (hSv2.fr hf (fun i z => by rcases z with z | z; cases z.1; (have := z.2; simp only at this; omega))) hf h32 (fun M'' a b => h M'' (hfm2.tr a) b)
    · rw [hR] at hRX
      rw [hRX] at h
      exact h M' (hfm2.tr (frM_DM (hf.mono DK_DM))) (hX2.sch (hf.mono DK_DM) hRn)
  · have w0 : ¬ wnr X s = 0 := fun q => c7 ((ng_0 (wnr_lt X s)).mpr q)
    refine g_aloadR_n dX7_school_10 rfl rfl ?_
    refine g_iload_n dX7_school_11 rfl rfl ?_
    refine n_v1i (n' := 0) dX7_school_12 mX7_no lX7_109 rfl hW vld_x20 rfl rfl ⟨Nat.le_of_ble_eq_true rfl, Nat.le_of_ble_eq_true rfl⟩ ⟨Nat.zero_le _, Nat.zero_le _⟩ (Nat.le_of_ble_eq_true rfl) ?_
    refine wp_X7_no (by exact hW) (j := wnr X s) rfl (wnr_lt X s) ?_
    refine ⟨_, rfl, ?_⟩
    refine g_iret dX7_school_15 rfl ?_
    have e : opSchool X s = rfX X (wnr X s) := by unfold opSchool; rw [if_pos w0]
    rw [e] at h
    exact h _ (frM_sI (by decide)) (repMo_rfm hX (by omega) (wnr_lt X s))
