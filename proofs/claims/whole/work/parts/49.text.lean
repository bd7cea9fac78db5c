/-! THE READER: A WHOLE TEXT -/
theorem OkS.enr {S : Sc} (h : OkS S) (hn : S.1 < 10) {kd a ow pd : Int32} (h1 : IN kd 7) (h2 : IN a 10) (h3 : IN ow 21) (h4 : pd = 0 ∨ pd = 1) : OkS (enrS S kd a ow pd) := by
  obtain ⟨g1, g2, g3, g4, g5, g6⟩ := h
  refine ⟨by show S.1 + 1 ≤ 10; omega, g2, g3, g4, g5, fun i hi => ?_⟩
  have hi : i < S.1 + 1 := hi
  show OkP (S.1 + 1) (if i = S.1 then entF (fun _ => 0) kd a ow pd else S.2.2 i)
  by_cases q : i = S.1
  · rw [if_pos q]
    exact ⟨h1, h2, h3, h4, Or.inl rfl, by show IN (0 : Int32) 10; decide, Or.inl rfl⟩
  · rw [if_neg q]
    obtain ⟨p0, p1, p2, p3, p4, p5, p8⟩ := g6 i (by omega)
    refine ⟨p0, p1, p2, p3, ?_, p5, p8⟩
    rcases p4 with p4 | p4
    · exact Or.inl p4
    · exact Or.inr ⟨p4.1, by have := p4.2; omega⟩
theorem OkS.up8 {S : Sc} (h : OkS S) {x : Nat} {v : Int32} (hv : v = 0 ∨ v = 1) : OkS (upS S x 8 v) := by
  obtain ⟨h1, h2, h3, h4, h5, h6⟩ := h
  refine ⟨h1, h2, h3, h4, h5, fun i hi => ?_⟩
  obtain ⟨p0, p1, p2, p3, p4, p5, p8⟩ := h6 i hi
  refine ⟨?_, ?_, ?_, ?_, ?_, ?_, ?_⟩ <;> simp only [upS]
  · rw [if_neg (by omega)]; exact p0
  · rw [if_neg (by omega)]; exact p1
  · rw [if_neg (by omega)]; exact p2
  · rw [if_neg (by omega)]; exact p3
  · rw [if_neg (by omega)]; exact p4
  · rw [if_neg (by omega)]; exact p5
  · by_cases q : i = x
    · rw [if_pos ⟨q, trivial⟩]; exact hv
    · rw [if_neg (fun z => q z.1)]; exact p8
theorem lohi4 : ∀ w, w < 4 → 0 ≤ (lo_ (nI w)).toInt ∧ (w = 2 → 1 ≤ (lo_ (nI w)).toInt) ∧ (hi_ (nI w)).toInt = [20, 9, 12, 10].getD w 0 := by decide +kernel
theorem OkS.gs {S : Sc} (h : OkS S) {w : Nat} (hw : w < 4) {v : Int32} (h1 : lo_ (nI w) ≤ v) (h2 : v ≤ hi_ (nI w)) : OkS (gS S (w + 1) v) := by
  obtain ⟨g1, g2, g3, g4, g5, g6⟩ := h
  obtain ⟨l1, l2, l3⟩ := lohi4 w hw
  rw [Int32.le_iff_toInt_le] at h1 h2
  rw [l3] at h2
  have q : w = 0 ∨ w = 1 ∨ w = 2 ∨ w = 3 := by omega
  have gn : ∀ j, j ≠ w + 1 → (gS S (w + 1) v).2.1 j = S.2.1 j := fun j hj => if_neg hj
  have ge : (gS S (w + 1) v).2.1 (w + 1) = v := if_pos rfl
  rcases q with rfl | rfl | rfl | rfl <;> simp at h2
  · exact ⟨g1, by rw [show (1 : Nat) = 0 + 1 from rfl, ge]; exact ⟨by omega, by omega⟩, by rw [gn _ (by decide)]; exact g3, by rw [gn _ (by decide)]; exact g4, by rw [gn _ (by decide)]; exact g5, g6⟩
  · exact ⟨g1, by rw [gn _ (by decide)]; exact g2, by rw [show (2 : Nat) = 1 + 1 from rfl, ge]; exact ⟨by omega, by omega⟩, by rw [gn _ (by decide)]; exact g4, by rw [gn _ (by decide)]; exact g5, g6⟩
  · have := l2 rfl
    exact ⟨g1, by rw [gn _ (by decide)]; exact g2, by rw [gn _ (by decide)]; exact g3, by rw [show (3 : Nat) = 2 + 1 from rfl, ge]; exact ⟨⟨by omega, by omega⟩, by omega⟩, by rw [gn _ (by decide)]; exact g5, g6⟩
  · exact ⟨g1, by rw [gn _ (by decide)]; exact g2, by rw [gn _ (by decide)]; exact g3, by rw [gn _ (by decide)]; exact g4, by rw [show (4 : Nat) = 3 + 1 from rfl, ge]; exact ⟨by omega, by omega⟩, g6⟩
theorem rdItem_ok {L : Tx} {ll p : Nat} {S S' : Sc} {q : Nat} (ht : TxOk L ll) (hO : OkS S) (h : rdItem L S p = .inr (S', q)) : OkS S' ∧ p + 1 ≤ q ∧ q ≤ ll := by
  unfold rdItem at h
  cases e : rdWord L p with
  | inl f => rw [e] at h; cases h
  | inr z =>
    obtain ⟨w, q0⟩ := z
    rw [e] at h
    have hw : w < 7 ∧ p + 1 ≤ q0 := by
      unfold rdWord at e
      by_cases c : wIx L p = 7
      · rw [if_pos c] at e; cases e
      · rw [if_neg c] at e
        have hl := wIx_le L p
        have hp := js_pos (wIx L p) (by omega)
        split at e
        · injection e with e; injection e with e1 e2
          exact ⟨by omega, by omega⟩
        · cases e
    obtain ⟨hw7, hq0⟩ := hw
    have h : rdBody L S p w q0 = .inr (S', q) := h
    unfold rdBody at h
    split at h
    · split at h
      · cases h
      · rename_i hn10
        have hn : S.1 < 10 := by have := hO.1; omega
        unfold rdPer at h
        cases e1 : rdNum L q0 0 6 with
        | inl f => rw [e1] at h; cases h
        | inr z1 =>
          obtain ⟨v1, q1⟩ := z1
          simp only [e1] at h
          cases e2 : rdNum L q1 0 9 with
          | inl f => rw [e2] at h; cases h
          | inr z2 =>
            obtain ⟨v2, q2⟩ := z2
            simp only [e2] at h
            cases e3 : rdNum L q2 0 20 with
            | inl f => rw [e3] at h; cases h
            | inr z3 =>
              obtain ⟨v3, q3⟩ := z3
              simp only [e3] at h
              cases e4 : rdNum L q3 0 1 with
              | inl f => rw [e4] at h; cases h
              | inr z4 =>
                obtain ⟨v4, q4⟩ := z4
                simp only [e4] at h
                injection h with h; injection h with h1 h2
                have b1 := rdNum_r ht e1
                have b2 := rdNum_r ht e2
                have b3 := rdNum_r ht e3
                have b4 := rdNum_r ht e4
                have i4 := rdC_IN (n := 1) ht (by decide) e4
                have hz : v4 = 0 ∨ v4 = 1 := by
                  have y1 := i4.1
                  have y2 := i4.2
                  simp only [← Int32.toInt_inj, zcs]; omega
                subst h1 h2
                exact ⟨hO.enr hn (rdC_IN (n := 6) ht (by decide) e1) (rdC_IN (n := 9) ht (by decide) e2) (rdC_IN (n := 20) ht (by decide) e3) hz, by omega, b4.1⟩
    · split at h
      · unfold rdFri at h
        cases e1 : rdNum L q0 0 (nI S.1 - 1) with
        | inl f => rw [e1] at h; cases h
        | inr z1 =>
          obtain ⟨v1, q1⟩ := z1
          simp only [e1] at h
          cases e2 : rdNum L q1 0 (nI S.1 - 1) with
          | inl f => rw [e2] at h; cases h
          | inr z2 =>
            obtain ⟨v2, q2⟩ := z2
            simp only [e2] at h
            split at h
            · cases h
            · injection h with h; injection h with h1 h2
              have b1 := rdNum_r ht e1
              have b2 := rdNum_r ht e2
              subst h1 h2
              exact ⟨hO.up4 (Or.inr (rdN_IN ht hO.1 e2)), by omega, b2.1⟩
      · split at h
        · unfold rdGon at h
          cases e1 : rdNum L q0 0 (nI S.1 - 1) with
          | inl f => rw [e1] at h; cases h
          | inr z1 =>
            obtain ⟨v1, q1⟩ := z1
            simp only [e1] at h
            injection h with h; injection h with h1 h2
            have b1 := rdNum_r ht e1
            subst h1 h2
            exact ⟨hO.up8 (Or.inr rfl), by omega, b1.1⟩
        · unfold rdSet at h
          cases e1 : rdNum L q0 (lo_ (nI (w - 3))) (hi_ (nI (w - 3))) with
          | inl f => rw [e1] at h; cases h
          | inr z1 =>
            obtain ⟨v1, q1⟩ := z1
            simp only [e1] at h
            injection h with h; injection h with h1 h2
            have b1 := rdNum_r ht e1
            subst h1 h2
            exact ⟨hO.gs (show w - 3 < 4 by omega) b1.2.2.1 b1.2.2.2, by omega, b1.1⟩
def txL (v : Sf) : Tx := fun p => if p < lenF v then (v.2.2.2.2 p).toInt32 else -1
theorem txOk {n : Nat} {v : Sf} (h : OkSf n v) : TxOk (txL v) (lenF v) := ⟨h.len, fun i hi => if_neg (by omega)⟩
theorem rdAll_ok {L : Tx} {ll : Nat} (ht : TxOk L ll) : ∀ d S p it it' S', OkS S → rdAll L ll d S p it = .inr (it', S') → OkS S' := by
  intro d
  induction d with
  | zero => intro S p it it' S' _ h; cases h
  | succ d ih =>
    intro S p it it' S' hO h
    rw [rdAll] at h
    cases e : rdItem L S p with
    | inl f => rw [e] at h; cases h
    | inr z =>
      obtain ⟨S1, q⟩ := z
      simp only [e] at h
      have h1 := (rdItem_ok ht hO e).1
      split at h
      · injection h with h; injection h with h2 h3; rw [← h3]; exact h1
      · split at h
        · exact ih _ _ _ _ _ h1 h
        · cases h
def RdO (L : Tx) (ll : Nat) (S : Sc) (M M' : Mem) (v : Int32) : Prop := FrI DR M M' ∧ match rdAll L ll 160 S 0 1 with
  | .inl f => mI M' (8, 0, 0) 1 = nI f ∧ f < 2 ^ 31
  | .inr (it, S') => v = nI it ∧ mI M' (8, 0, 0) 1 = -1 ∧ RepC M' 3 S'
theorem rdFit_f {v lo hi : Int32} {f q f' : Nat} (h : rdFit v lo hi f q = .inl f') : f' = f := by
  unfold rdFit at h
  split at h
  · injection h with h; exact h.symm
  · split at h
    · cases h
    · injection h with h; exact h.symm
theorem rdNum_f {L : Tx} {p : Nat} {lo hi : Int32} {f : Nat} (h : rdNum L p lo hi = .inl f) : f ≤ p + 1 := by
  unfold rdNum at h
  split at h
  · split at h
    · split at h
      · have := rdFit_f h; omega
      · have := rdFit_f h; omega
    · injection h with h; omega
  · injection h with h; omega
theorem mtI_le (L : Tx) (B : List Int32) (p : Nat) : ∀ d i, mtI L B p d i ≤ i + d := by
  intro d
  induction d with
  | zero => intro i; exact Nat.le_refl _
  | succ d ih => intro i; rw [mtI]; split; (have := ih (i + 1); omega); omega
theorem rdItem_f {L : Tx} {ll : Nat} {S : Sc} {p f : Nat} (h : rdItem L S p = .inl f) (hp : p ≤ 160) (ht : TxOk L ll) : f < 2 ^ 31 := by
  have ht1 := ht.1
  unfold rdItem at h
  cases e : rdWord L p with
  | inl f' =>
    rw [e] at h; injection h with h; subst h
    unfold rdWord at e
    by_cases c : wIx L p = 7
    · rw [if_pos c] at e; injection e with e; omega
    · rw [if_neg c] at e
      have hl := wIx_le L p
      have hps := js_pos (wIx L p) (by omega)
      split at e
      · cases e
      · injection e with e
        have := mtI_le L (jsB (wIx L p)) p (jsB (wIx L p)).length 0
        unfold mt at e; omega
  | inr z =>
    obtain ⟨w, q0⟩ := z
    rw [e] at h
    have hq0 : q0 ≤ 166 := by
      unfold rdWord at e
      by_cases c : wIx L p = 7
      · rw [if_pos c] at e; cases e
      · rw [if_neg c] at e
        have hl := wIx_le L p
        have hps := js_pos (wIx L p) (by omega)
        split at e
        · injection e with e; injection e with e1 e2; omega
        · cases e
    have h : rdBody L S p w q0 = .inl f := h
    have nn : ∀ {q lo hi f}, q ≤ 166 → rdNum L q lo hi = .inl f → f < 2 ^ 31 := fun hq e => by have := rdNum_f e; omega
    have nr : ∀ {q lo hi v q'}, rdNum L q lo hi = .inr (v, q') → q' ≤ 166 := fun e => by have := (rdNum_r ht e).1; omega
    unfold rdBody at h
    split at h
    · split at h
      · injection h with h; omega
      · unfold rdPer at h
        cases e1 : rdNum L q0 0 6 with
        | inl f => rw [e1] at h; injection h with h; rw [← h]; exact nn hq0 e1
        | inr z1 =>
          obtain ⟨v1, q1⟩ := z1
          simp only [e1] at h
          cases e2 : rdNum L q1 0 9 with
          | inl f => rw [e2] at h; injection h with h; rw [← h]; exact nn (nr e1) e2
          | inr z2 =>
            obtain ⟨v2, q2⟩ := z2
            simp only [e2] at h
            cases e3 : rdNum L q2 0 20 with
            | inl f => rw [e3] at h; injection h with h; rw [← h]; exact nn (nr e2) e3
            | inr z3 =>
              obtain ⟨v3, q3⟩ := z3
              simp only [e3] at h
              cases e4 : rdNum L q3 0 1 with
              | inl f => rw [e4] at h; injection h with h; rw [← h]; exact nn (nr e3) e4
              | inr z4 => obtain ⟨v4, q4⟩ := z4; simp only [e4] at h; cases h
    · split at h
      · unfold rdFri at h
        cases e1 : rdNum L q0 0 (nI S.1 - 1) with
        | inl f => rw [e1] at h; injection h with h; rw [← h]; exact nn hq0 e1
        | inr z1 =>
          obtain ⟨v1, q1⟩ := z1
          simp only [e1] at h
          cases e2 : rdNum L q1 0 (nI S.1 - 1) with
          | inl f => rw [e2] at h; injection h with h; rw [← h]; exact nn (nr e1) e2
          | inr z2 =>
            obtain ⟨v2, q2⟩ := z2
            simp only [e2] at h
            split at h
            · injection h with h; have := nr e1; omega
            · cases h
      · split at h
        · unfold rdGon at h
          cases e1 : rdNum L q0 0 (nI S.1 - 1) with
          | inl f => rw [e1] at h; injection h with h; rw [← h]; exact nn hq0 e1
          | inr z1 => obtain ⟨v1, q1⟩ := z1; simp only [e1] at h; cases h
        · unfold rdSet at h
          cases e1 : rdNum L q0 (lo_ (nI (w - 3))) (hi_ (nI (w - 3))) with
          | inl f => rw [e1] at h; injection h with h; rw [← h]; exact nn hq0 e1
          | inr z1 => obtain ⟨v1, q1⟩ := z1; simp only [e1] at h; cases h
set_option maxHeartbeats 4000000 in
set_option maxRecDepth 100000 in
theorem lp_X3_items {E : Ev} {M0 : Mem} {Q : QT} {L : Tx} {ll : Nat} {S : Sc} (ht : TxOk L ll) {x1 x2 : Id} (h : ∀ M' v, RdO L ll S M0 M' v → Q (some (vI v)) M') : ∀ j, j ≤ 161 → ∀ (M : Mem) (p : Nat) (Sj : Sc), 1 ≤ j → Wi M → FrI DR M0 M → RdS M L ll p (-1) Sj → OkS Sj → p ≤ 160 → 2 * (j - 1) ≤ p → rdAll L ll (161 - j) Sj p j = rdAll L ll 160 S 0 1 → G E (rm 6 0 0) kX3_read (ZQ E Q 0 0) 0 0 56 [some (vR (8, 0, 0)), some (vR x1), some (vR x2), some (vI (nI j))] [] M := by
  refine up_loop 161 (fun j hj ih M p Sj hj0 hW hf0 hr hOj hp hpj hinv => ?_)
  have hn := hOj.1
  refine g_iload_n dX3_read_56 rfl rfl ?_
  refine g_sipush dX3_read_57 (v := 160) (by decide) ?_
  refine g_icmp_gt (tgt := 102) dX3_read_60 (by decide) (fun c60 => ?_) (fun c60 => ?_)
  · exfalso
    have hj1 : 160 < j := by
      have := nI_toInt (n := j) (by omega)
      rw [show (160 : Int32) = nI 160 from rfl] at c60
      simp only [Int32.lt_iff_toInt_lt, zn] at c60; omega
    omega
  · rw [show (160 : Int32) = nI 160 from rfl] at c60
    have hj1 : j ≤ 160 := by
      have := nI_toInt (n := j) (by omega)
      simp only [Int32.lt_iff_toInt_lt, zn] at c60; omega
    refine g_aloadR_n dX3_read_63 rfl rfl ?_
    refine n_v0i (n' := 5) dX3_read_64 mX3_readItem lX3_43 rfl hW vld_x8 rfl rfl ⟨Nat.le_of_ble_eq_true rfl, Nat.le_of_ble_eq_true rfl⟩ ⟨Nat.zero_le _, Nat.zero_le _⟩ (Nat.le_of_ble_eq_true rfl) ?_
    refine wp_X3_readItem (by exact hW) ht hr hp hn (fun M1 r1 ho1 => ?_)
    have hW1 := ho1.1.W (by exact hW)
    have hrz := ho1.z
    refine ⟨_, rfl, ?_⟩
    refine g_if_ne (tgt := 72) dX3_read_67 (by decide) (fun c67 => ?_) (fun c67 => ?_)
    · refine g_aloadR_n dX3_read_72 rfl rfl ?_
      refine n_getI dX3_read_73 fX3_40 rfl hW1 vld_x8 (Or.inl rfl) ?_
      refine g_aloadR_n dX3_read_76 rfl rfl ?_
      refine n_getI dX3_read_77 fX3_35 rfl hW1 vld_x8 (Or.inl rfl) ?_
      obtain ⟨S1, q1, e1, hq1, hr1⟩ : ∃ S1 q1, rdItem L Sj p = .inr (S1, q1) ∧ q1 ≤ 160 ∧ RdS M1 L ll q1 (-1) S1 := by
        obtain ⟨-, hx⟩ := ho1
        cases e : rdItem L Sj p with
        | inl f => rw [e] at hx; exact absurd hx.1 c67
        | inr z => obtain ⟨S1, q1⟩ := z; rw [e] at hx; exact ⟨S1, q1, rfl, hx.2.1, hx.2.2⟩
      obtain ⟨ok1, ok2, ok3⟩ := rdItem_ok ht hOj e1
      rw [show mI M1 (8, 0, 0) 4 = nI q1 from hr1.1, show mI M1 (8, 0, 0) 3 = nI ll from hr1.2.1]
      refine g_icmp_lt (tgt := 85) dX3_read_80 (by decide) (fun c80 => ?_) (fun c80 => ?_)
      · rw [nI_ltI (by omega) (by have := ht.1; omega)] at c80
        have hlq : ¬ ll ≤ q1 := by omega
        refine g_aloadR_n dX3_read_85 rfl rfl ?_
        refine g_bipush dX3_read_86 (v := 59) (by decide) ?_
        refine n_v1i (n' := 1) dX3_read_88 mX3_readSign lX3_47 rfl hW1 vld_x8 rfl rfl ⟨Nat.le_of_ble_eq_true rfl, Nat.le_of_ble_eq_true rfl⟩ ⟨Nat.zero_le _, Nat.zero_le _⟩ (Nat.le_of_ble_eq_true rfl) ?_
        refine wp_X3_readSign (by exact hW1) ht hr1 hq1 (fun M2 ho2 => ?_)
        have hW2 := ho2.1.W (by exact hW1)
        refine ⟨_, rfl, ?_⟩
        refine g_if_ne (tgt := 96) dX3_read_91 (by decide) (fun c91 => ?_) (fun c91 => ?_)
        · simp only [b2_0, Decidable.not_not] at c91
          refine g_iinc_3 (v := nI (j + 1)) dX3_read_96 rfl (nI_inc j) ?_
          refine g_goto (tgt := 56) dX3_read_99 (by decide) ?_
          obtain ⟨hr2, -⟩ := ho2.2.1 c91
          have hlt := ht.lt (p := q1) (by rw [c91]; decide)
          exact ih (by omega) M2 (q1 + 1) S1 (by omega) hW2 ((hf0.tr ho1.1).tr ho2.1) hr2 ok1 (by have := ht.1; omega) (by omega) (by
            rw [← hinv, show 161 - j = (160 - j) + 1 by omega, rdAll, e1]; simp only
            rw [if_neg hlq, if_pos c91, show 161 - (j + 1) = 160 - j by omega])
        · simp only [b2_0, Decidable.not_not] at c91
          refine g_iconst dX3_read_94 (v := (-1)) (by decide) ?_
          refine g_iret dX3_read_95 rfl ?_
          have e : rdAll L ll 160 S 0 1 = .inl q1 := by
            rw [← hinv, show 161 - j = (160 - j) + 1 by omega, rdAll, e1]; simp only; rw [if_neg hlq, if_neg c91]
          exact h _ _ ⟨(hf0.tr ho1.1).tr ho2.1, by rw [e]; exact ⟨ho2.2.2 c91, by omega⟩⟩
      · rw [nI_ltI (by omega) (by have := ht.1; omega)] at c80
        have hlq : ll ≤ q1 := by omega
        refine g_iload_n dX3_read_83 rfl rfl ?_
        refine g_iret dX3_read_84 rfl ?_
        have e : rdAll L ll 160 S 0 1 = .inr (j, S1) := by
          rw [← hinv, show 161 - j = (160 - j) + 1 by omega, rdAll, e1]; simp only; rw [if_pos hlq]
        exact h _ _ ⟨hf0.tr ho1.1, by rw [e]; exact ⟨rfl, hr1.2.2.2.1, hr1.2.2.2.2⟩⟩
    · refine g_iconst dX3_read_70 (v := (-1)) (by decide) ?_
      refine g_iret dX3_read_71 rfl ?_
      obtain ⟨f, e1, hwr⟩ : ∃ f, rdItem L Sj p = .inl f ∧ mI M1 (8, 0, 0) 1 = nI f := by
        obtain ⟨-, hx⟩ := ho1
        cases e : rdItem L Sj p with
        | inl f => rw [e] at hx; exact ⟨f, rfl, hx.2⟩
        | inr z =>
          obtain ⟨S1, q1⟩ := z; rw [e] at hx
          have c67 : r1 = 0 := by first | exact c67 | exact Decidable.not_not.mp c67
          rw [hx.1] at c67; exact absurd c67 (by decide)
      have e : rdAll L ll 160 S 0 1 = .inl f := by rw [← hinv, show 161 - j = (160 - j) + 1 by omega, rdAll, e1]
      exact h _ _ ⟨hf0.tr ho1.1, by rw [e]; exact ⟨hwr, rdItem_f e1 hp ht⟩⟩
theorem elV_fr {D : Id → Nat → Prop} {M M' : Mem} (h : FrI D M M') (s ln : Nat) (i : Int32) : elV M' s ln i = elV M s ln i := by unfold elV mJ; rw [h.1]
theorem DR5 {M M' : Mem} {s f : Nat} (h : FrI DR M M') : mI M' (5, s, 0) f = mI M (5, s, 0) f := h.2 _ _ (fun q => by rcases q with q | q | ⟨q | q, -⟩ <;> cases q)
theorem el_tx {M : Mem} {s n : Nat} {v : Sf} (hr : RepSf M s v) (ho : OkSf n v) {i : Nat} (hi : i < lenF v) : (elV M s (lenF v) (nI i)).toInt32 = txL v i := by
  have hl := ho.len
  rw [el_eq hr ho]
  unfold elF txL
  rw [if_pos (IN_of hi (by omega)), if_pos hi, nI_clamp (by omega)]
set_option maxHeartbeats 4000000 in
set_option maxRecDepth 100000 in
theorem lp_X3_letters {E : Ev} {M0 : Mem} {Q : QT} {S : Sc} {s ln : Nat} (hs : s < 9) (hl : mI M0 (5, s, 0) 2 = nI ln) (hl2 : ln ≤ 160) (h : ∀ M, Wi M → (FrI DR M0 M ∧ (∀ i, i < 160 → mI M (9, 0, 0) i = (elV M0 s ln (nI i)).toInt32) ∧ mI M (8, 0, 0) 3 = nI ln ∧ RepC M 3 S) → G E (rm 6 0 0) kX3_read (ZQ E Q 0 0) 0 0 44 [some (vR (8, 0, 0)), some (vR (5, s, 0)), some (vR (1, 0, 0)), some (vI (nI 160))] [] M) : ∀ j, j ≤ 160 → ∀ (M : Mem), Wi M → (FrI DR M0 M ∧ (∀ i, i < j → mI M (9, 0, 0) i = (elV M0 s ln (nI i)).toInt32) ∧ mI M (8, 0, 0) 3 = nI ln ∧ RepC M 3 S) → G E (rm 6 0 0) kX3_read (ZQ E Q 0 0) 0 0 18 [some (vR (8, 0, 0)), some (vR (5, s, 0)), some (vR (1, 0, 0)), some (vI (nI j))] [] M := by
  refine up_loop 160 (fun j hj ih M hW hst => ?_)
  obtain ⟨hf0, hb, hlen, hRS⟩ := hst
  refine g_iload_n dX3_read_18 rfl rfl ?_
  refine g_aloadR_n dX3_read_19 rfl rfl ?_
  refine n_getR dX3_read_20 fX3_22 rfl hW vld_x8 rfl rfl ?_
  refine n_alen dX3_read_23 rfl (by decide) hW vld_x9 ?_
  refine g_icmp_ge (tgt := 44) dX3_read_24 (by decide) (fun c24 => ?_) (fun c24 => ?_)
  · rw [nI_leI (by omega) (by omega)] at c24
    have hj2 : j = 160 := by omega
    subst hj2
    exact h M hW ⟨hf0, hb, hlen, hRS⟩
  · rw [nI_leI (by omega) (by omega)] at c24
    have hjn : j < 160 := by omega
    refine g_aloadR_n dX3_read_27 rfl rfl ?_
    refine n_getR dX3_read_28 fX3_22 rfl hW vld_x8 rfl rfl ?_
    refine g_iload_n dX3_read_31 rfl rfl ?_
    refine g_aloadR_n dX3_read_32 rfl rfl ?_
    refine g_iload_n dX3_read_33 rfl rfl ?_
    refine n_v1i (n' := 1) dX3_read_34 mX5_intAt lX3_36 rfl hW (vld_sh hs) rfl rfl ⟨Nat.le_of_ble_eq_true rfl, Nat.le_of_ble_eq_true rfl⟩ ⟨Nat.zero_le _, Nat.zero_le _⟩ (Nat.le_of_ble_eq_true rfl) ?_
    refine wp_X5_intAt (by exact hW) hs ((DR5 hf0).trans hl) hl2 ?_
    refine ⟨_, rfl, ?_⟩
    refine n_iast (j := j) dX3_read_37 rfl hW vld_x9 (by decide) rfl hjn ?_
    refine g_iinc_3 (v := nI (j + 1)) dX3_read_38 rfl (nI_inc j) ?_
    refine g_goto (tgt := 18) dX3_read_41 (by decide) ?_
    refine ih hjn _ hW ⟨hf0.tr (fr_sI (Or.inr (Or.inl rfl))), fun i hi => ?_, by simpa [mI, sI] using hlen, hRS.fr (D := fun b _ => b.1 = 9) (fr_sI rfl) (fun j q => by cases q) (fun i f _ q => by cases q)⟩
    simp only [mI, sI]
    by_cases q : i = j
    · subst q; rw [if_pos ⟨trivial, rfl⟩, elV_fr hf0]
    · rw [if_neg (fun z => q z.2)]; exact hb i (by omega)
set_option maxHeartbeats 4000000 in
set_option maxRecDepth 100000 in
theorem wp_X3_read {E : Ev} {M : Mem} {Q : QT} (hW : Wi M) {S : Sc} (hR0 : RepC M 0 S) (hO : OkS S) {s n : Nat} (hs : s < 9) {v : Sf} (hr : RepSf M s v) (ho : OkSf n v) (h : ∀ M' r, RdO (txL v) (lenF v) S M M' r → Q (some (vI r)) M') : Mth E 6 0 0 kX3_read [vR (8, 0, 0), vR (5, s, 0), vR (1, 0, 0)] M Q := by
  refine mth_of (by decide +kernel) [some (vR (8, 0, 0)), some (vR (5, s, 0)), some (vR (1, 0, 0)), none] (Nat.le_of_ble_eq_true rfl) rfl ?_
  refine g_aloadR_n dX3_read_0 rfl rfl ?_
  refine n_getR dX3_read_1 fX3_12 rfl hW vld_x8 rfl rfl ?_
  refine g_aloadR_n dX3_read_4 rfl rfl ?_
  refine n_v1v (n' := 1) dX3_read_5 mX4_become lX3_26 rfl hW (vld_sc (by decide : 3 < 4)) rfl rfl ⟨Nat.le_of_ble_eq_true rfl, Nat.le_of_ble_eq_true rfl⟩ ⟨Nat.zero_le _, Nat.zero_le _⟩ (Nat.le_of_ble_eq_true rfl) ?_
  refine wp_X4_become (by exact hW) (by decide : 3 < 4) (by decide : 0 < 4) (by decide) hR0 hO (fun M1 hf1 hP1 => ?_)
  have hW1 := hf1.W hW
  have hg1 : FrI DR M M1 := hf1.mono Dk3_DR
  refine ⟨rfl, ?_⟩
  refine g_aloadR_n dX3_read_8 rfl rfl ?_
  refine g_aloadR_n dX3_read_9 rfl rfl ?_
  refine n_getI dX3_read_10 fX3_30 rfl hW1 (vld_sh hs) (Or.inl rfl) ?_
  rw [(DR5 hg1).trans hr.f.2.2]
  refine n_putI dX3_read_13 fX3_35 rfl hW1 vld_x8 rfl ?_
  refine g_iconst dX3_read_16 (v := 0) (by decide) ?_
  refine g_istore_3 dX3_read_17 rfl ?_
  refine lp_X3_letters (M0 := M) (S := S) (ln := lenF v) hs hr.f.2.2 ho.len (fun M2 hW2 hst => ?_) 0 (Nat.zero_le _) _ (by exact hW1) ⟨hg1.tr fr8, fun i hi => absurd hi (by omega), by simp [mI, sI], hP1.r8⟩
  obtain ⟨hf0, hb, hlen, hRS⟩ := hst
  refine g_aloadR_n dX3_read_44 rfl rfl ?_
  refine g_iconst dX3_read_45 (v := 0) (by decide) ?_
  refine n_putI dX3_read_46 fX3_40 rfl hW2 vld_x8 rfl ?_
  refine g_aloadR_n dX3_read_49 rfl rfl ?_
  refine g_iconst dX3_read_50 (v := (-1)) (by decide) ?_
  refine n_putI dX3_read_51 fX3_18 rfl (by exact hW2) vld_x8 rfl ?_
  refine g_iconst dX3_read_54 (v := 1) (by decide) ?_
  refine g_istore_3 dX3_read_55 rfl ?_
  refine lp_X3_items (M0 := M) (L := txL v) (ll := lenF v) (S := S) (txOk ho) h 1 (by decide) _ 0 S (by decide) (by exact hW2) ((hf0.tr fr8).tr fr8) ⟨by simp [mI, sI, nI_0], by simpa [mI, sI] using hlen, fun i hi => ?_, by simp [mI, sI], hRS.r8.r8⟩ hO (by decide) (by decide) rfl
  rw [(sI_hk _ (by intro q; cases q)).1, (sI_hk _ (by intro q; cases q)).1, hb i (by have := ho.len; omega)]
  exact el_tx hr ho hi
def opSchool (X : Sys) (s : Int32) : Int32 × Sys := if ¬ wnr X s = 0 then rfX X (wnr X s) else match rdAll (txL (shV X s)) (lenF (shV X s)) 160 (xS X) 0 1 with
  | .inl f => rfX (setF X (nI f)) 6
  | .inr (it, S') => (nI it, setS (setF X (-1)) S')
set_option maxHeartbeats 4000000 in
set_option maxRecDepth 100000 in
theorem wp_X6_school {E : Ev} {M : Mem} {Q : QT} (hW : Wi M) {X : Sys} (hX : RepCl M X) (hO : OkX X) {s : Int32} (h : ∀ M', FrC M M' → RepCl M' (opSchool X s).2 → Q (some (vI (opSchool X s).1)) M') : Mth E 7 0 0 kX6_school [vR (0, 0, 0), vI s] M Q := by
  refine mth_of (by decide +kernel) [some (vR (0, 0, 0)), some (vI s), none, none] (Nat.le_of_ble_eq_true rfl) rfl ?_
  refine g_aloadR_n dX6_school_0 rfl rfl ?_
  refine g_iload_n dX6_school_1 rfl rfl ?_
  refine n_v1i (n' := 1) dX6_school_2 mX6_whyNoRow lX6_78 rfl hW vld_x0 rfl rfl ⟨Nat.le_of_ble_eq_true rfl, Nat.le_of_ble_eq_true rfl⟩ ⟨Nat.zero_le _, Nat.zero_le _⟩ (Nat.le_of_ble_eq_true rfl) ?_
  refine wp_X6_whyNoRow (by exact hW) hX hO ?_
  refine ⟨_, rfl, ?_⟩
  refine g_istore_2 dX6_school_5 rfl ?_
  refine g_iload_n dX6_school_6 rfl rfl ?_
  refine g_if_eq (tgt := 16) dX6_school_7 (by decide) (fun c7 => ?_) (fun c7 => ?_)
  · rw [ng_0 (wnr_lt X s)] at c7
    refine g_aloadR_n dX6_school_16 rfl rfl ?_
    refine n_getR dX6_school_17 fX6_43 rfl hW vld_x0 rfl rfl ?_
    refine g_aloadR_n dX6_school_20 rfl rfl ?_
    refine g_iload_n dX6_school_21 rfl rfl ?_
    refine n_v1r (n' := 0) dX6_school_22 mX6_shelfAt lX6_70 rfl hW vld_x0 rfl rfl ⟨Nat.le_of_ble_eq_true rfl, Nat.le_of_ble_eq_true rfl⟩ ⟨Nat.zero_le _, Nat.zero_le _⟩ (Nat.le_of_ble_eq_true rfl) ?_
    refine wp_X6_shelfAt (by exact hW) ?_
    refine ⟨_, rfl, ?_⟩
    refine g_aloadR_n dX6_school_25 rfl rfl ?_
    refine n_getR dX6_school_26 fX6_10 rfl hW vld_x0 rfl rfl ?_
    refine n_v2i (n' := 6) dX6_school_29 mX3_read lX6_176 rfl hW vld_x8 rfl rfl ⟨Nat.le_of_ble_eq_true rfl, Nat.le_of_ble_eq_true rfl⟩ ⟨Nat.zero_le _, Nat.zero_le _⟩ (Nat.le_of_ble_eq_true rfl) ?_
    refine wp_X3_read (by exact hW) hX.1 hO.1 (shx_lt _) (hX.sh s) (hO.sh s) (fun M1 r1 ho1 => ?_)
    have hW3 := ho1.1.W hW
    have hX1 := hX.hd (ho1.1.mono DR_DX)
    have hfc : FrC M M1 := frC_DX (ho1.1.mono DR_DX)
    refine ⟨_, rfl, ?_⟩
    refine g_istore_3 dX6_school_32 rfl ?_
    refine g_aloadR_n dX6_school_33 rfl rfl ?_
    refine g_aloadR_n dX6_school_34 rfl rfl ?_
    refine n_getR dX6_school_35 fX6_43 rfl hW3 vld_x0 rfl rfl ?_
    refine n_getI dX6_school_38 fX6_180 rfl hW3 vld_x8 (Or.inl rfl) ?_
    refine g_top (fun y ey => ?_)
    refine n_putI dX6_school_41 fX6_58 rfl hW3 vld_x0 rfl ?_
    refine g_aloadR_n dX6_school_44 rfl rfl ?_
    refine n_getI dX6_school_45 fX6_58 rfl hW3 vld_x0 (Or.inl rfl) ?_
    rw [show mI (sI M1 (0, 0, 0) 10 y) (0, 0, 0) 10 = y from by simp [mI, sI]]
    refine g_iconst dX6_school_48 (v := (-1)) (by decide) ?_
    refine g_icmp_eq (tgt := 59) dX6_school_49 (by decide) (fun c49 => ?_) (fun c49 => ?_)
    · obtain ⟨it, S', e, hr1, hR3⟩ : ∃ it S', rdAll (txL (shV X s)) (lenF (shV X s)) 160 (xS X) 0 1 = .inr (it, S') ∧ r1 = nI it ∧ RepC M1 3 S' := by
        obtain ⟨-, hx⟩ := ho1
        cases e : rdAll (txL (shV X s)) (lenF (shV X s)) 160 (xS X) 0 1 with
        | inl f =>
          rw [e] at hx
          have h1 := nI_toInt hx.2
          rw [← hx.1, ← ey, c49] at h1
          have h2 : (-1 : Int32).toInt = -1 := by decide
          exfalso; omega
        | inr z => obtain ⟨it, S'⟩ := z; rw [e] at hx; exact ⟨it, S', rfl, hx.1, hx.2.2⟩
      subst c49
      refine g_aloadR_n dX6_school_59 rfl rfl ?_
      refine n_getR dX6_school_60 fX6_10 rfl hW3 vld_x0 rfl rfl ?_
      refine g_aloadR_n dX6_school_63 rfl rfl ?_
      refine n_getR dX6_school_64 fX6_43 rfl hW3 vld_x0 rfl rfl ?_
      refine n_getR dX6_school_67 fX6_183 rfl hW3 vld_x8 rfl rfl ?_
      refine n_v1v (n' := 1) dX6_school_70 mX4_become lX6_186 rfl hW3 (vld_sc (by decide : 0 < 4)) rfl rfl ⟨Nat.le_of_ble_eq_true rfl, Nat.le_of_ble_eq_true rfl⟩ ⟨Nat.zero_le _, Nat.zero_le _⟩ (Nat.le_of_ble_eq_true rfl) ?_
      refine wp_X4_become (by exact hW3) (by decide : 0 < 4) (by decide : 3 < 4) (by decide) (hR3.fr (D := fun b _ => b.1 = 0) (fr_sI rfl) (fun j q => by cases q) (fun i f _ q => by cases q)) (rdAll_ok (txOk (hO.sh s)) 160 _ _ _ _ _ hO.1 e) (fun M3 hf3 hP3 => ?_)
      have hW4 := hf3.W (by exact hW3)
      refine ⟨rfl, ?_⟩
      refine g_iload_n dX6_school_73 rfl rfl ?_
      refine g_iret dX6_school_74 rfl ?_
      have eo : opSchool X s = (nI it, setS (setF X (-1)) S') := by unfold opSchool; rw [if_neg (not_not_intro c7), e]
      rw [eo] at h
      rw [hr1]
      exact h _ ((hfc.tr (frC_sI (by decide))).tr (FrC.of hf3 D_lt.1)) (hX1.flt.now hf3 hP3)
    · obtain ⟨f, e, hyf⟩ : ∃ f, rdAll (txL (shV X s)) (lenF (shV X s)) 160 (xS X) 0 1 = .inl f ∧ y = nI f := by
        obtain ⟨-, hx⟩ := ho1
        cases e : rdAll (txL (shV X s)) (lenF (shV X s)) 160 (xS X) 0 1 with
        | inl f => rw [e] at hx; exact ⟨f, rfl, ey.trans hx.1⟩
        | inr z => obtain ⟨it, S'⟩ := z; rw [e] at hx; exact absurd (ey.trans hx.2.1) c49
      subst hyf
      refine g_aloadR_n dX6_school_52 rfl rfl ?_
      refine g_bipush dX6_school_53 (v := (-6)) (by decide) ?_
      refine n_v1i (n' := 0) dX6_school_55 mX6_refuse lX6_66 rfl hW3 vld_x0 rfl rfl ⟨Nat.le_of_ble_eq_true rfl, Nat.le_of_ble_eq_true rfl⟩ ⟨Nat.zero_le _, Nat.zero_le _⟩ (Nat.le_of_ble_eq_true rfl) ?_
      refine wp_X6_refuse (j := 6) (by exact hW3) (by decide) (by decide) ?_
      refine ⟨_, rfl, ?_⟩
      refine g_iret dX6_school_58 rfl ?_
      have eo : opSchool X s = rfX (setF X (nI f)) 6 := by unfold opSchool; rw [if_neg (not_not_intro c7), e]
      rw [eo] at h
      exact h _ ((hfc.tr (frC_sI (by decide))).tr (frC_sI (by decide))) (repCl_rfz hX1.flt (by decide) (by decide))
  · rw [ng_0 (wnr_lt X s)] at c7
    refine g_aloadR_n dX6_school_10 rfl rfl ?_
    refine g_iload_n dX6_school_11 rfl rfl ?_
    refine n_v1i (n' := 0) dX6_school_12 mX6_refuse lX6_66 rfl hW vld_x0 rfl rfl ⟨Nat.le_of_ble_eq_true rfl, Nat.le_of_ble_eq_true rfl⟩ ⟨Nat.zero_le _, Nat.zero_le _⟩ (Nat.le_of_ble_eq_true rfl) ?_
    refine wp_X6_refuse (j := wnr X s) (by exact hW) (wnr_lt X s) (nn_nI _) ?_
    refine ⟨_, rfl, ?_⟩
    refine g_iret dX6_school_15 rfl ?_
    have eo : opSchool X s = rfX X (wnr X s) := by unfold opSchool; rw [if_pos c7]
    rw [eo] at h
    exact h _ (frC_sI (by decide)) (repCl_rfz hX (by omega) (wnr_lt X s))
