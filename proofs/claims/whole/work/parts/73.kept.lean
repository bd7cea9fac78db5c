/-! EVERY STEP KEEPS THE SYSTEM RIGHT; ONE SIDE LEAVES THE OTHER'S STATE AS IT IS -/
theorem OkSf.mono {n n' : Nat} {v : Sf} (h : OkSf n v) (hn : n ≤ n') : OkSf n' v := ⟨h.1, h.2.1, fun q => ⟨(h.2.2 q).1, by have := (h.2.2 q).2; omega⟩⟩
theorem okSf_no (n : Nat) : OkSf n noSf := ⟨Or.inl rfl, fun q => absurd q (by decide), fun q => absurd q (by decide)⟩
theorem OkX.sS {X : Sys} (h : OkX X) {S : Sc} (hS : OkS S) (hn : (xS X).1 ≤ S.1) : OkX (setS X S) := ⟨hS, h.2.1, fun s hs => (h.2.2.1 s hs).mono hn, h.2.2.2⟩
theorem OkX.sH {X : Sys} (h : OkX X) {t : Nat} {v : Sf} (hv : OkSf (xS X).1 v) : OkX (setH X t v) := ⟨h.1, h.2.1, fun s hs => by
  show OkSf (xS X).1 (if s = t then v else xH X s)
  by_cases q : s = t
  · rw [if_pos q]; exact hv
  · rw [if_neg q]; exact h.2.2.1 s hs, h.2.2.2⟩
theorem OkX.sL {X : Sys} (h : OkX X) {L : List Int32} (hL : L.length ≤ 100) : OkX (setL X L) := ⟨h.1, h.2.1, h.2.2.1, hL⟩
theorem OkS.up6 {S : Sc} (h : OkS S) {x : Nat} {v : Int32} : OkS (upS S x 6 v) := by
  obtain ⟨h1, h2, h3, h4, h5, h6⟩ := h
  refine ⟨h1, h2, h3, h4, h5, fun i hi => ?_⟩
  obtain ⟨p0, p1, p2, p3, p4, p5, p8⟩ := h6 i hi
  refine ⟨?_, ?_, ?_, ?_, ?_, ?_, ?_⟩ <;> simp only [upS]
  · rw [if_neg (by omega)]; exact p0
  · rw [if_neg (by omega)]; exact p1
  · rw [if_neg (by omega)]; exact p2
  · rw [if_neg (by omega)]; exact p3
  · rw [if_neg (by omega)]; exact p4
  · rw [if_neg (by omega)]; exact p5
  · rw [if_neg (by omega)]; exact p8
theorem OkS.g6 {S : Sc} (h : OkS S) {v : Int32} : OkS (gS S 6 v) := h
theorem dwI_n (S : Sc) : ∀ j, (dwI S j).1 = S.1
  | 0 => rfl
  | j + 1 => dwI_n S j
theorem wnr_row {X : Sys} {s : Int32} (h : wnr X s = 0) : (shV X s).1 = 1 := by
  unfold wnr at h
  by_cases c1 : ¬ IN s 8
  · rw [if_pos c1] at h; cases h
  · rw [if_neg c1] at h
    by_cases c2 : (shV X s).1 = 2
    · rw [if_pos c2] at h; cases h
    · rw [if_neg c2] at h
      by_cases c3 : (shV X s).1 = 1
      · exact c3
      · rw [if_neg c3] at h; cases h
theorem okSf_row {n : Nat} {so : Int32} {k : Nat} {f : Nat → Int64} (h1 : IN so 4) (h2 : k ≤ 160) : OkSf n (1, so, 0, k, f) := ⟨Or.inr (Or.inl rfl), fun _ => ⟨h1, h2⟩, fun q => by have q : (1 : Nat) = 2 := q; omega⟩
theorem okSf_per {n : Nat} {p : Int32} {f : Nat → Int64} (h1 : IN p n) : OkSf n (2, 0, p, 0, f) := ⟨Or.inr (Or.inr rfl), fun q => by have q : (2 : Nat) = 1 := q; omega, fun _ => h1⟩
theorem ok_row {X : Sys} (hO : OkX X) (s so n : Int32) : OkX (opRow X s so n).2 := by
  unfold opRow
  split; exact hO
  split; exact hO
  split; exact hO
  split; exact hO
  split; exact hO
  rename_i c1 c2 c3 c4 c5
  refine OkX.sH hO (okSf_row ?_ ?_)
  · simp only [IN, Int32.lt_iff_toInt_lt, Int32.le_iff_toInt_le, zcs, zn] at *; omega
  · show n.toInt.toNat ≤ 160
    simp only [IN, Int32.lt_iff_toInt_lt, Int32.le_iff_toInt_le, zcs, zn] at *; omega
theorem ok_set {X : Sys} (hO : OkX X) (s i : Int32) (v : Int64) : OkX (opSet X s i v).2 := by
  unfold opSet
  split; exact hO
  split; exact hO
  rename_i c1 c2
  have h1 : (shV X s).1 = 1 := wnr_row (Classical.not_not.mp c1)
  have h2 := (hO.sh s).2.1 h1
  exact OkX.sH hO (okSf_row h2.1 h2.2)
theorem ok_show {X : Sys} (hO : OkX X) (s p : Int32) : OkX (opShow X s p).2 := by
  unfold opShow
  split; exact hO
  split; exact OkX.sH hO (okSf_no _)
  split; exact hO
  rename_i c1 c2 c3
  exact OkX.sH hO (okSf_per (Classical.not_not.mp c3))
theorem ok_says {X : Sys} (hO : OkX X) (s k : Int32) : OkX (opSays X s k).2 := by unfold opSays; repeat' split <;> first | exact hO | skip
theorem ok_person {X : Sys} (hO : OkX X) (kd a ow : Int32) {pd : Int32} (hp : pd = 0 ∨ pd = 1) : OkX (opPerson X kd a ow pd).2 := by
  unfold opPerson
  split; exact hO
  split; exact hO
  split; exact hO
  split; exact hO
  split; exact hO
  split; exact hO
  rename_i c1 c2 c3 c4 c5 c6
  have h10 := hO.1.1
  refine OkX.sS hO (OkS.enr hO.1 (by omega) (Classical.not_not.mp c1) ?_ ?_ hp) (by show (xS X).1 ≤ (xS X).1 + 1; omega)
  · clear hp; simp only [IN, Int32.lt_iff_toInt_lt, Int32.le_iff_toInt_le, zcs, zn] at *; omega
  · clear hp; simp only [IN, Int32.lt_iff_toInt_lt, Int32.le_iff_toInt_le, zcs, zn] at *; omega
theorem ok_friend {X : Sys} (hO : OkX X) (x y : Int32) : OkX (opFriend X x y).2 := by
  unfold opFriend
  split; exact hO
  split; exact hO
  split; exact hO
  rename_i c1 c2 c3
  exact OkX.sS hO (OkS.up4 hO.1 (Classical.not_not.mp c2)) (Nat.le_refl _)
theorem ok_ask {X : Sys} (hO : OkX X) (w v : Int32) : OkX (opAsk X w v).2 := by
  unfold opAsk
  split; exact hO
  split; exact hO
  split; exact hO
  split; exact hO
  rename_i c1 c2 c3 c4
  have hi : IN w 4 := by clear c3 c4; simp only [IN, Int32.lt_iff_toInt_lt, Int32.le_iff_toInt_le, zcs, zn] at *; omega
  have hw := IN_nI hi
  refine OkX.sS hO (OkS.gs hO.1 hw.2 ?_ ?_) (Nat.le_refl _)
  · rw [← hw.1, Int32.le_iff_toInt_le]; rw [Int32.lt_iff_toInt_lt] at c3; omega
  · rw [← hw.1]; exact Classical.not_not.mp c4
theorem ok_go {X : Sys} (hO : OkX X) (x : Int32) {is_ : Int32} (hi : is_ = 0 ∨ is_ = 1) : OkX (opGo X x is_).2 := by
  unfold opGo
  split; exact hO
  refine OkX.sS hO ?_ ?_
  · unfold goS; split
    · exact (OkS.up8 hO.1 hi).up6
    · exact OkS.up8 hO.1 hi
  · unfold goS; split <;> exact Nat.le_refl _
theorem ok_personOf {X : Sys} (hO : OkX X) (x w : Int32) : OkX (opPersonOf X x w).2 := by unfold opPersonOf; repeat' split <;> first | exact hO | skip
theorem ok_will {X : Sys} (hO : OkX X) (x : Int32) : OkX (opWill X x).2 := by unfold opWill; repeat' split <;> first | exact hO | skip
theorem ok_seed {X : Sys} (hO : OkX X) (v : Int32) : OkX (opSeed X v).2 := OkX.sS hO (OkS.g6 hO.1) (Nat.le_refl _)
theorem ok_tonight {X : Sys} (hO : OkX X) (w : Int32) : OkX (opTonight X w).2 := by unfold opTonight; repeat' split <;> first | exact hO | skip
theorem ok_ahead {X : Sys} (hO : OkX X) (n w : Int32) : OkX (opAhead X n w).2 := by unfold opAhead; repeat' split <;> first | exact hO | skip
theorem ok_worst {X : Sys} (hO : OkX X) (n w : Int32) : OkX (opWorst X n w).2 := by unfold opWorst; repeat' split <;> first | exact hO | skip
theorem ok_ones {X : Sys} (hO : OkX X) (x n w : Int32) : OkX (opOnes X x n w).2 := by unfold opOnes; repeat' split <;> first | exact hO | skip
theorem ok_lost {X : Sys} (hO : OkX X) (n : Int32) : OkX (opLost X n).2 := by unfold opLost; repeat' split <;> first | exact hO | skip
theorem ok_price {X : Sys} (hO : OkX X) (n : Int32) : OkX (opPrice X n).2 := by unfold opPrice; repeat' split <;> first | exact hO | skip
theorem ok_image {X : Sys} (hO : OkX X) : OkX (opImage X).2 := ⟨hO.1, fun S e => by injection e with e; rw [← e]; exact hO.1, hO.2.2⟩
theorem ok_begin {X : Sys} (hO : OkX X) (n : Int32) : OkX (opBegin X n).2 := by unfold opBegin; repeat' split <;> first | exact hO | skip
theorem ok_room {X : Sys} (hO : OkX X) (n : Int32) : OkX (opRoom X n).2 := by unfold opRoom; repeat' split <;> first | exact hO | skip
theorem ok_take {X : Sys} (hO : OkX X) (n : Int32) : OkX (opTake X n).2 := by unfold opTake; repeat' split <;> first | exact hO | skip
theorem ok_keeps {X : Sys} (hO : OkX X) (x : Int32) : OkX (opKeeps X x).2 := by unfold opKeeps; repeat' split <;> first | exact hO | skip
theorem ok_keep {X : Sys} (hO : OkX X) : OkX (opKeep X).2 := hO
theorem ok_chain {X : Sys} (hO : OkX X) (x : Int32) : OkX (opChain X x).2 := by unfold opChain; repeat' split <;> first | exact hO | skip
theorem ok_judge {X : Sys} (hO : OkX X) (s n : Int32) : OkX (opJudge X s n).2 := by unfold opJudge; repeat' split <;> first | exact hO | skip
theorem ok_friends {X : Sys} (hO : OkX X) (s n x : Int32) : OkX (opFriends X s n x).2 := by unfold opFriends; repeat' split <;> first | exact hO | skip
theorem ok_ring {X : Sys} (hO : OkX X) (k w : Int32) : OkX (opRing X k w).2 := by unfold opRing; repeat' split <;> first | exact hO | skip
theorem ok_evenings {X : Sys} (hO : OkX X) (n : Int32) : OkX (opEvenings X n).2 := by
  unfold opEvenings
  split; exact hO
  split; exact hO
  exact OkX.sS hO (OkS.it hO.1 _) (Nat.le_of_eq (itS_n _ _).symm)
theorem ok_drawn {X : Sys} (hO : OkX X) (n : Int32) : OkX (opDrawn X n).2 := by
  unfold opDrawn
  split; exact hO
  split; exact hO
  exact OkX.sS hO (OkS.dwi hO.1 _) (Nat.le_of_eq (dwI_n _ _).symm)
theorem ok_act {X : Sys} (hO : OkX X) (p mv x : Int32) : OkX (opAct X p mv x).2 := by
  unfold opAct
  split; exact hO.sL (Nat.zero_le _)
  split; exact hO.sL (Nat.zero_le _)
  rename_i c1 c2
  have h1 := IN_nI (Classical.not_not.mp c1)
  have h2 := IN_nI (Classical.not_not.mp c2)
  exact hO.sL (actL_le (IN_nI (hO.1.2.2.2.2.2 _ h1.2).1).2 h2.2)
theorem ok_copy {X : Sys} (hO : OkX X) (p q i j n : Int32) : OkX (opCopy X p q i j n).2 := by
  unfold opCopy
  split; exact hO
  split; exact hO
  split; exact hO
  split; exact hO
  split
  · rename_i c
    split; exact hO
    split; exact hO
    split; exact hO
    split; exact hO
    have h2 := (hO.sh q).2.1 c.2
    exact OkX.sH hO (okSf_row h2.1 h2.2)
  · exact hO
theorem ok_restore {X : Sys} (hO : OkX X) : OkX (opRestore X).2 := by
  unfold opRestore
  split
  · exact hO
  · rename_i S e
    refine ⟨hO.2.1 S e, hO.2.1, fun s hs => ?_, hO.2.2.2⟩
    show OkSf S.1 (if s < 8 ∧ (xH X s).1 = 2 ∧ ¬ IN (xH X s).2.2.1 S.1 then noSf else xH X s)
    have h := hO.2.2.1 s hs
    by_cases q : s < 8 ∧ (xH X s).1 = 2 ∧ ¬ IN (xH X s).2.2.1 S.1
    · rw [if_pos q]; exact okSf_no _
    · rw [if_neg q]
      exact ⟨h.1, h.2.1, fun z => Classical.not_not.mp fun w => q ⟨hs, z, w⟩⟩
theorem rdBody_n {L : Tx} {S S' : Sc} {p w q q' : Nat} (h : rdBody L S p w q = .inr (S', q')) : S.1 ≤ S'.1 := by
  unfold rdBody at h
  split at h
  · split at h
    · cases h
    · unfold rdPer at h
      split at h
      · cases h
      · split at h
        · cases h
        · split at h
          · cases h
          · split at h
            · cases h
            · injection h with h; injection h with h1 h2; rw [← h1]; exact Nat.le_succ _
  · split at h
    · unfold rdFri at h
      split at h
      · cases h
      · split at h
        · cases h
        · split at h
          · cases h
          · injection h with h; injection h with h1 h2; rw [← h1]; exact Nat.le_refl _
    · split at h
      · unfold rdGon at h
        split at h
        · cases h
        · injection h with h; injection h with h1 h2; rw [← h1]; exact Nat.le_refl _
      · unfold rdSet at h
        split at h
        · cases h
        · injection h with h; injection h with h1 h2; rw [← h1]; exact Nat.le_refl _
theorem rdItem_n {L : Tx} {S S' : Sc} {p q : Nat} (h : rdItem L S p = .inr (S', q)) : S.1 ≤ S'.1 := by
  unfold rdItem at h
  split at h
  · cases h
  · exact rdBody_n h
theorem rdAll_n {L : Tx} {ll : Nat} : ∀ d S p it it' S', rdAll L ll d S p it = .inr (it', S') → S.1 ≤ S'.1 := by
  intro d
  induction d with
  | zero => intro S p it it' S' h; cases h
  | succ d ih =>
    intro S p it it' S' h
    rw [rdAll] at h
    cases e : rdItem L S p with
    | inl f => rw [e] at h; cases h
    | inr z =>
      obtain ⟨S1, q⟩ := z
      simp only [e] at h
      have h1 := rdItem_n e
      split at h
      · injection h with h; injection h with h2 h3; rw [← h3]; exact h1
      · split at h
        · exact Nat.le_trans h1 (ih _ _ _ _ _ h)
        · cases h
theorem ok_school {X : Sys} (hO : OkX X) (s : Int32) : OkX (opSchool X s).2 := by
  unfold opSchool
  split
  · exact hO
  · split
    · exact hO
    · rename_i it S' e
      exact OkX.sS (X := setF X (-1)) hO (rdAll_ok (txOk (hO.sh s)) 160 _ _ _ _ _ hO.1 e) (rdAll_n 160 _ _ _ _ _ e)
theorem RepMo.frC {M M1 : Mem} {X : Sys} (h : RepMo M X) (hf : FrC M M1) : RepMo M1 X := by
  obtain ⟨h1, h2, h3, h4, h5, h6, h7⟩ := h
  have hI : ∀ j k : Nat, mI M1 (21, j, k) = mI M (21, j, k) := fun j k => (hf.2 (21, j, k) (show 20 ≤ 21 by decide)).1
  have hJ : ∀ j k : Nat, mJ M1 (21, j, k) = mJ M (21, j, k) := fun j k => (hf.2 (21, j, k) (show 20 ≤ 21 by decide)).2
  have hM : mI M1 (20, 0, 0) = mI M (20, 0, 0) := (hf.2 (20, 0, 0) (show 20 ≤ 20 by decide)).1
  refine ⟨⟨by rw [hM]; exact h1.1, fun j a b => by rw [hM]; exact h1.2.1 j a b, fun i f a b => by rw [hI]; exact h1.2.2 i f a b⟩, ?_, fun s hs => ?_, fun j a b => by rw [hI]; exact h4 j a b, by rw [hM]; exact h5, ?_, ?_⟩
  · show RepImM _ (xI X)
    revert h2
    cases xI X with
    | none => exact fun h2 => by show mI _ _ _ = _; rw [hM]; exact h2
    | some S => exact fun h2 => ⟨by rw [hM]; exact h2.1, by unfold RepSv; rw [hI]; exact h2.2⟩
  · show RepSfM _ s (xH X s)
    unfold RepSfM
    rw [hI, hI, hI, hI, hJ]
    exact h3 s hs
  · unfold RepTrM; rw [hM, hI]; exact h6
  · unfold RepKM; rw [hI, hI, hI]; exact h7
theorem RepCl.frM {M M1 : Mem} {X : Sys} (h : RepCl M X) (hf : FrM M M1) : RepCl M1 X := by
  obtain ⟨h1, h2, h3, h4, h5, h6, h7⟩ := h
  have hI : ∀ b : Id, b.1 < 20 → mI M1 b = mI M b := fun b hb => (hf.2 b hb).1
  have hJ : ∀ b : Id, b.1 < 20 → mJ M1 b = mJ M b := fun b hb => (hf.2 b hb).2
  have hk : ∀ k S, RepC M k S → RepC M1 k S := fun k S hS => hS.same (hI _ (show 1 < 20 by decide)) (fun i f _ => by rw [hI _ (show 2 < 20 by decide)])
  exact ⟨hk 0 _ h1, h2.same (by rw [hI _ (by decide)]) (hk 2), fun s hs => (h3 s hs).same (hI _ (show 5 < 20 by decide)) (hJ _ (show 6 < 20 by decide)), h4.same (hI _ (show 5 < 20 by decide)) (hJ _ (show 6 < 20 by decide)), fun j a b => by rw [hI _ (show 12 < 20 by decide)]; exact h5 j a b, by rw [hI _ (by decide)]; exact h6, h7.same (by rw [hI _ (by decide)]) (hI _ (show 11 < 20 by decide))⟩
