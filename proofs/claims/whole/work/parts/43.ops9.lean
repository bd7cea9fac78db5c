/-! THE CLASS'S OWN METHODS: COPIES, DRAWS, STATUS -/
theorem ac_w : Cond.native arraycopyName ∈ TB ∧ Cond.static arraycopyName ∈ TB ∧ Cond.initialized "java/lang/System" ∈ TB ∧ Cond.methodLink RX6 106 arraycopyName ∈ TB := ⟨List.mem_filter.mpr (by decide +kernel), List.mem_filter.mpr (by decide +kernel), List.mem_filter.mpr (by decide +kernel), List.mem_filter.mpr (by decide +kernel)⟩
def cpJ (M : Mem) (a0 a1 : Id) (sp dp n : Nat) : Mem := (M.1, fun b j => if b = a1 then va_cpy (mJ M a0) (mJ M a1) sp dp n j else M.2.1 b j, M.2.2)
section RCP
variable {E : Ev} {R : Room} {k : MK} {Z : ZT} {ca sl pc : Nat} {lv : List (Option AV)} {st : List AV} {M : Mem}
theorem n_copyl {idx : Nat} {a0 a1 : Id} {n0 n1 : Nat} {sp dp n : Int32} (hd : decode k.2.1 pc = .ok (.invokestatic idx, 3)) (hl0 : Cond.methodLink k.1.cls idx arraycopyName ∈ TB) (hs0 : shp a0 = (2, n0)) (hs1 : shp a1 = (2, n1)) (hW : Wi M) (v0 : vld a0 = true) (v1 : vld a1 = true)
    (h1 : ¬ sp < 0) (h2 : ¬ dp < 0) (h3 : ¬ n < 0) (h4 : sp.toNatClampNeg + n.toNatClampNeg ≤ n0) (h5 : dp.toNatClampNeg + n.toNatClampNeg ≤ n1) (hR : 1 ≤ R.frames ∧ (st.map vcat).sum + (nativeFrameWords "java/lang/System" "arraycopy" 5 + 11) ≤ R.locals)
    (h : G E R k Z ca sl (pc + 3) lv st (cpJ M a0 a1 sp.toNatClampNeg dp.toNatClampNeg n.toNatClampNeg)) : G E R k Z ca sl pc lv (vI n :: vI dp :: vR a1 :: vI sp :: vR a0 :: st) M := by
  intro p l e s m args below meth c H locs ls C hw hy hS hl
  have hts := C.2.2.2.2.2.2.1
  have nn : ∀ z : Int32, ¬ z < 0 → z.toInt = (z.toNatClampNeg : Int) := by
    intro z hz
    have hz0 : (0 : Int) ≤ z.toInt := by
      have := Int32.not_lt.mp hz
      simpa using Int32.le_iff_toInt_le.mp this
    show z.toInt = ((z.toInt.toNat : Nat) : Int)
    omega
  intro T hT X
  have hc0 := hy.ar2 hs0 v0 (hW.lt v0)
  have hc1 := hy.ar2 hs1 v1 (hW.lt v1)
  obtain ⟨-, k0, hk0, cm0, hkk0⟩ := hw.2.1.2.1.1 n0 (fun j => .long (mJ M a0 j))
  obtain ⟨-, k1, hk1, cm1, hkk1⟩ := hw.2.1.2.1.1 n1 (fun j => .long (mJ M a1 j))
  obtain ⟨vm', X', step⟩ := X.arraycopy C.1 C.2.2.2.2.2.1 (hts _ hl0) (hts _ ac_w.1) (hts _ ac_w.2.1) (hts _ ac_w.2.2.1) (src := ad E a0) (dst := ad E a1) (cs := arrV (eA E 1) n0 fun j => .long (mJ M a0 j)) (cd := arrV (eA E 1) n1 fun j => .long (mJ M a1 j)) (srcPos := sp) (destPos := dp) (n := n) (by rw [hT]; exact hc0) (by rw [hT]; exact hc1)
    (fun _ h => by cases h) (fun _ h => by cases h) (fun h => by cases h) (fun h => by cases h) hk0 hk1 hkk0 hkk1 (by simp [refKind]) h1 h2 h3
    (by rw [nn sp h1, nn n h3, arrV_size]; omega)
    (by rw [nn dp h2, nn n h3, arrV_size]; omega)
    (fun vm₁ _ i hi => by
      have e : (arrV (eA E 1) n0 fun j => .long (mJ M a0 j)).slots.getD (sp.toNatClampNeg + i) .null = .long (mJ M a0 (sp.toNatClampNeg + i)) := by
        rw [Array.getD_eq_getD_getElem?, arrV_read _ _ (by omega)]
        rfl
      refine ⟨?_, ?_⟩
      · rw [e]; rfl
      · rw [e]
        exact trivial)
    (g := F0 m pc ls ((vI n :: vI dp :: vR a1 :: vI sp :: vR a0 :: st).map (cv E))) rfl (hl.2.1.trans C.2.2.1.symm) (rest := st.map (cv E)) rfl (by rw [C.2.1]; exact hd) hR.1 (by
      have hc : ((st.map (cv E)).map fun v => v.category).sum = (st.map vcat).sum := by rw [List.map_map]; congr 2; funext v; exact cv_vcat
      show 2 * 0 + _ + _ ≤ _
      rw [hc]; have := hR.2; omega)
  have e1 : copied (arrV (eA E 1) n0 fun j => .long (mJ M a0 j)) (arrV (eA E 1) n1 fun j => .long (mJ M a1 j)) sp dp n = arrV (eA E 1) n1 (fun j => .long (va_cpy (mJ M a0) (mJ M a1) sp.toNatClampNeg dp.toNatClampNeg n.toNatClampNeg j)) := va_copied (fun z => .long z) (eA E 1) (eA E 1) (mJ M a0) (mJ M a1) h4
  rw [e1] at X' step
  have hlt : ad E a1 < H.size := (Array.getElem?_eq_some_iff.mp hc1).1
  have hheap : ((T.setVm vm').setCell (ad E a1) (arrV (eA E 1) n1 (fun j => .long (va_cpy (mJ M a0) (mJ M a1) sp.toNatClampNeg dp.toNatClampNeg n.toNatClampNeg j)))).heap = H.setIfInBounds (ad E a1) (arrV (eA E 1) n1 (fun j => .long (va_cpy (mJ M a0) (mJ M a1) sp.toNatClampNeg dp.toNatClampNeg n.toNatClampNeg j))) := by rw [← hT]; rfl
  have oq : ∀ q : Nat, q ≠ ad E a1 → (H.setIfInBounds (ad E a1) (arrV (eA E 1) n1 (fun j => .long (va_cpy (mJ M a0) (mJ M a1) sp.toNatClampNeg dp.toNatClampNeg n.toNatClampNeg j))))[q]? = H[q]? := fun q hq => by simp [Array.getElem?_setIfInBounds, Ne.symm hq]
  have hyN : Wdy E (cpJ M a0 a1 sp.toNatClampNeg dp.toNatClampNeg n.toNatClampNeg) (H.setIfInBounds (ad E a1) (arrV (eA E 1) n1 (fun j => .long (va_cpy (mJ M a0) (mJ M a1) sp.toNatClampNeg dp.toNatClampNeg n.toNatClampNeg j)))) := by
    refine hy.set v1 rfl (by simp) oq ?_ (fun b hb => ⟨rfl, by funext j; simp [mJ, cpJ, hb], rfl⟩)
    unfold cellAt
    rw [hs1]
    show (H.setIfInBounds _ _)[_]? = some (arrV _ _ fun j => .long (mJ (cpJ _ _ _ _ _ _) a1 j))
    rw [Array.getElem?_setIfInBounds, if_pos rfl, if_pos hlt]
    simp [mJ, cpJ]
  obtain ⟨t, a1', b1'⟩ := h p l e s m args below meth c _ _ ls C hw hyN ⟨by simp; exact hS.1, fun q g1 g2 => by
      rw [oq q (fun e => g2 (by rw [e]; exact eZ_ad))]
      exact hS.2.1 q g1 g2, fun q hq => by
      rcases List.mem_append.mp hq with h | h
      · exact hS.2.2 q h
      · obtain ⟨z, -, hz⟩ := List.mem_map.mp h
        rw [← hz]
        exact eZ_ad⟩ hl _ hheap X'
  exact ⟨t, step t a1', b1'⟩
end RCP
def cpyS (v w : Sf) (i j n : Nat) : Sf := (1, w.2.1, 0, w.2.2.2.1, va_cpy v.2.2.2.2 w.2.2.2.2 i j n)
def strOk (v : Sf) (i n : Int32) : Prop := 0 ≤ i.toInt ∧ 0 ≤ n.toInt ∧ i.toInt + n.toInt ≤ lenF v
theorem strOk_dec (v : Sf) (i n : Int32) : strOk v i n ∨ ¬ strOk v i n := Classical.em _
def opCopy (X : Sys) (p q i j n : Int32) : Int32 × Sys := if ¬ IN p 8 then rfX X 1 else if ¬ IN q 8 then rfX X 1 else if (shV X p).1 = 2 then rfX X 2 else if (shV X q).1 = 2 then rfX X 2 else if (shV X p).1 = 1 ∧ (shV X q).1 = 1 then (if ¬ (shV X p).2.1 = (shV X q).2.1 then rfX X 2 else if ¬ 0 ≤ n then rfX X 4 else if ¬ (0 ≤ i.toInt ∧ 0 ≤ n.toInt ∧ i.toInt + n.toInt ≤ lenF (shV X p)) then rfX X 5 else if ¬ (0 ≤ j.toInt ∧ 0 ≤ n.toInt ∧ j.toInt + n.toInt ≤ lenF (shV X q)) then rfX X 5 else (1, setH X q.toNatClampNeg (cpyS (shV X p) (shV X q) i.toNatClampNeg j.toNatClampNeg n.toNatClampNeg))) else rfX X 3
set_option maxHeartbeats 4000000 in
set_option maxRecDepth 100000 in
theorem wp_X6_copy {E : Ev} {M : Mem} {Q : QT} (hW : Wi M) {X : Sys} (hX : RepCl M X) (hO : OkX X) {p q i j n : Int32} (h : ∀ M', FrC M M' → RepCl M' (opCopy X p q i j n).2 → Q (some (vI (opCopy X p q i j n).1)) M') : Mth E 1 0 0 kX6_copy [vR (0, 0, 0), vI p, vI q, vI i, vI j, vI n] M Q := by
  have hrp := hX.sh p
  have hop := hO.sh p
  have llp := hop.len
  obtain ⟨fp0, fp1, fp2⟩ := hrp.f
  have hrq := hX.sh q
  have hoq := hO.sh q
  have llq := hoq.len
  obtain ⟨fq0, fq1, fq2⟩ := hrq.f
  refine mth_of (by decide +kernel) [some (vR (0, 0, 0)), some (vI p), some (vI q), some (vI i), some (vI j), some (vI n), none, none, none] (Nat.le_of_ble_eq_true rfl) rfl ?_
  refine g_aloadR_n dX6_copy_0 rfl rfl ?_
  refine g_iload_n dX6_copy_1 rfl rfl ?_
  refine n_v1i (n' := 0) dX6_copy_2 mX6_isShelf lX6_62 rfl hW vld_x0 rfl rfl ⟨Nat.le_of_ble_eq_true rfl, Nat.le_of_ble_eq_true rfl⟩ ⟨Nat.zero_le _, Nat.zero_le _⟩ (Nat.le_of_ble_eq_true rfl) ?_
  refine wp_X6_isShelf (by exact hW) ?_
  refine ⟨_, rfl, ?_⟩
  refine g_if_eq (tgt := 16) dX6_copy_5 (by decide) (fun c5 => ?_) (fun c5 => ?_)
  · simp only [b2_0, Decidable.not_not] at c5
    refine g_aloadR_n dX6_copy_16 rfl rfl ?_
    refine g_iconst dX6_copy_17 (v := (-1)) (by decide) ?_
    refine n_v1i (n' := 0) dX6_copy_18 mX6_refuse lX6_66 rfl hW vld_x0 rfl rfl ⟨Nat.le_of_ble_eq_true rfl, Nat.le_of_ble_eq_true rfl⟩ ⟨Nat.zero_le _, Nat.zero_le _⟩ (Nat.le_of_ble_eq_true rfl) ?_
    refine wp_X6_refuse (j := 1) (by exact hW) (by decide) (by decide) ?_
    refine ⟨_, rfl, ?_⟩
    refine g_iret dX6_copy_21 rfl ?_
    have e : opCopy X p q i j n = rfX X 1 := by
      unfold opCopy
      try first | rw [if_pos c5] | rw [if_neg c5] | rw [if_neg (not_not_intro c5)]
      try first | rw [if_pos cR] | rw [if_neg cR] | rw [if_neg (not_not_intro cR)]
      try rfl
    rw [e] at h; exact h _ (frC_sI (by decide)) (repCl_rfz hX (by decide) (by decide))
  · simp only [b2_0, Decidable.not_not] at c5
    refine g_aloadR_n dX6_copy_8 rfl rfl ?_
    refine g_iload_n dX6_copy_9 rfl rfl ?_
    refine n_v1i (n' := 0) dX6_copy_10 mX6_isShelf lX6_62 rfl hW vld_x0 rfl rfl ⟨Nat.le_of_ble_eq_true rfl, Nat.le_of_ble_eq_true rfl⟩ ⟨Nat.zero_le _, Nat.zero_le _⟩ (Nat.le_of_ble_eq_true rfl) ?_
    refine wp_X6_isShelf (by exact hW) ?_
    refine ⟨_, rfl, ?_⟩
    refine g_if_ne (tgt := 22) dX6_copy_13 (by decide) (fun c13 => ?_) (fun c13 => ?_)
    · simp only [b2_0, Decidable.not_not] at c13
      refine g_aloadR_n dX6_copy_22 rfl rfl ?_
      refine g_iload_n dX6_copy_23 rfl rfl ?_
      refine n_v1r (n' := 0) dX6_copy_24 mX6_shelfAt lX6_70 rfl hW vld_x0 rfl rfl ⟨Nat.le_of_ble_eq_true rfl, Nat.le_of_ble_eq_true rfl⟩ ⟨Nat.zero_le _, Nat.zero_le _⟩ (Nat.le_of_ble_eq_true rfl) ?_
      refine wp_X6_shelfAt (by exact hW) ?_
      refine ⟨_, rfl, ?_⟩
      refine g_astore_6 dX6_copy_27 rfl ?_
      refine g_aloadR_n dX6_copy_29 rfl rfl ?_
      refine g_iload_n dX6_copy_30 rfl rfl ?_
      refine n_v1r (n' := 0) dX6_copy_31 mX6_shelfAt lX6_70 rfl hW vld_x0 rfl rfl ⟨Nat.le_of_ble_eq_true rfl, Nat.le_of_ble_eq_true rfl⟩ ⟨Nat.zero_le _, Nat.zero_le _⟩ (Nat.le_of_ble_eq_true rfl) ?_
      refine wp_X6_shelfAt (by exact hW) ?_
      refine ⟨_, rfl, ?_⟩
      refine g_astore_7 dX6_copy_34 rfl ?_
      refine g_aloadR dX6_copy_36 rfl ?_
      refine n_v0i (n' := 0) dX6_copy_38 mX5_isRow lX6_88 rfl hW (vld_sh (shx_lt _)) rfl rfl ⟨Nat.le_of_ble_eq_true rfl, Nat.le_of_ble_eq_true rfl⟩ ⟨Nat.zero_le _, Nat.zero_le _⟩ (Nat.le_of_ble_eq_true rfl) ?_
      refine wp_isRow (by exact hW) (shx_lt _) hrp hop ?_
      refine ⟨_, rfl, ?_⟩
      refine g_if_eq (tgt := 56) dX6_copy_41 (by decide) (fun c41 => ?_) (fun c41 => ?_)
      · simp only [b2_0, Decidable.not_not] at c41
        have cR : ¬ ((shV X p).1 = 1 ∧ (shV X q).1 = 1) := fun y => c41 y.1
        refine g_iconst dX6_copy_56 (v := 0) (by decide) ?_
        refine g_istore_8 dX6_copy_57 rfl ?_
        refine g_aloadR dX6_copy_59 rfl ?_
        refine n_v0i (n' := 0) dX6_copy_61 mX5_isPerson lX6_92 rfl hW (vld_sh (shx_lt _)) rfl rfl ⟨Nat.le_of_ble_eq_true rfl, Nat.le_of_ble_eq_true rfl⟩ ⟨Nat.zero_le _, Nat.zero_le _⟩ (Nat.le_of_ble_eq_true rfl) ?_
        refine wp_isPerson (by exact hW) (shx_lt _) hrp hop ?_
        refine ⟨_, rfl, ?_⟩
        refine g_if_ne (tgt := 93) dX6_copy_64 (by decide) (fun c64 => ?_) (fun c64 => ?_)
        · simp only [b2_0, Decidable.not_not] at c64
          refine g_aloadR_n dX6_copy_93 rfl rfl ?_
          refine g_bipush dX6_copy_94 (v := (-2)) (by decide) ?_
          refine n_v1i (n' := 0) dX6_copy_96 mX6_refuse lX6_66 rfl hW vld_x0 rfl rfl ⟨Nat.le_of_ble_eq_true rfl, Nat.le_of_ble_eq_true rfl⟩ ⟨Nat.zero_le _, Nat.zero_le _⟩ (Nat.le_of_ble_eq_true rfl) ?_
          refine wp_X6_refuse (j := 2) (by exact hW) (by decide) (by decide) ?_
          refine ⟨_, rfl, ?_⟩
          refine g_iret dX6_copy_99 rfl ?_
          have e : opCopy X p q i j n = rfX X 2 := by
            unfold opCopy
            try first | rw [if_pos c5] | rw [if_neg c5] | rw [if_neg (not_not_intro c5)]
            try first | rw [if_pos c13] | rw [if_neg c13] | rw [if_neg (not_not_intro c13)]
            try first | rw [if_pos c64] | rw [if_neg c64] | rw [if_neg (not_not_intro c64)]
            try first | rw [if_pos cR] | rw [if_neg cR] | rw [if_neg (not_not_intro cR)]
            try rfl
          rw [e] at h; exact h _ (frC_sI (by decide)) (repCl_rfz hX (by decide) (by decide))
        · simp only [b2_0, Decidable.not_not] at c64
          refine g_aloadR dX6_copy_67 rfl ?_
          refine n_v0i (n' := 0) dX6_copy_69 mX5_isPerson lX6_92 rfl hW (vld_sh (shx_lt _)) rfl rfl ⟨Nat.le_of_ble_eq_true rfl, Nat.le_of_ble_eq_true rfl⟩ ⟨Nat.zero_le _, Nat.zero_le _⟩ (Nat.le_of_ble_eq_true rfl) ?_
          refine wp_isPerson (by exact hW) (shx_lt _) hrq hoq ?_
          refine ⟨_, rfl, ?_⟩
          refine g_if_ne (tgt := 93) dX6_copy_72 (by decide) (fun c72 => ?_) (fun c72 => ?_)
          · simp only [b2_0, Decidable.not_not] at c72
            refine g_aloadR_n dX6_copy_93 rfl rfl ?_
            refine g_bipush dX6_copy_94 (v := (-2)) (by decide) ?_
            refine n_v1i (n' := 0) dX6_copy_96 mX6_refuse lX6_66 rfl hW vld_x0 rfl rfl ⟨Nat.le_of_ble_eq_true rfl, Nat.le_of_ble_eq_true rfl⟩ ⟨Nat.zero_le _, Nat.zero_le _⟩ (Nat.le_of_ble_eq_true rfl) ?_
            refine wp_X6_refuse (j := 2) (by exact hW) (by decide) (by decide) ?_
            refine ⟨_, rfl, ?_⟩
            refine g_iret dX6_copy_99 rfl ?_
            have e : opCopy X p q i j n = rfX X 2 := by
              unfold opCopy
              try first | rw [if_pos c5] | rw [if_neg c5] | rw [if_neg (not_not_intro c5)]
              try first | rw [if_pos c13] | rw [if_neg c13] | rw [if_neg (not_not_intro c13)]
              try first | rw [if_pos c64] | rw [if_neg c64] | rw [if_neg (not_not_intro c64)]
              try first | rw [if_pos c72] | rw [if_neg c72] | rw [if_neg (not_not_intro c72)]
              try first | rw [if_pos cR] | rw [if_neg cR] | rw [if_neg (not_not_intro cR)]
              try rfl
            rw [e] at h; exact h _ (frC_sI (by decide)) (repCl_rfz hX (by decide) (by decide))
          · simp only [b2_0, Decidable.not_not] at c72
            refine g_iload dX6_copy_75 rfl ?_
            refine g_if_eq (tgt := 100) dX6_copy_77 (by decide) (fun c77 => ?_) (fun c77 => ?_)
            · refine g_iload dX6_copy_100 rfl ?_
              refine g_if_ne (tgt := 112) dX6_copy_102 (by decide) (fun c102 => ?_) (fun c102 => ?_)
              · exact absurd c102 (by decide)
              · refine g_aloadR_n dX6_copy_105 rfl rfl ?_
                refine g_bipush dX6_copy_106 (v := (-3)) (by decide) ?_
                refine n_v1i (n' := 0) dX6_copy_108 mX6_refuse lX6_66 rfl hW vld_x0 rfl rfl ⟨Nat.le_of_ble_eq_true rfl, Nat.le_of_ble_eq_true rfl⟩ ⟨Nat.zero_le _, Nat.zero_le _⟩ (Nat.le_of_ble_eq_true rfl) ?_
                refine wp_X6_refuse (j := 3) (by exact hW) (by decide) (by decide) ?_
                refine ⟨_, rfl, ?_⟩
                refine g_iret dX6_copy_111 rfl ?_
                have e : opCopy X p q i j n = rfX X 3 := by
                  unfold opCopy
                  try first | rw [if_pos c5] | rw [if_neg c5] | rw [if_neg (not_not_intro c5)]
                  try first | rw [if_pos c13] | rw [if_neg c13] | rw [if_neg (not_not_intro c13)]
                  try first | rw [if_pos c64] | rw [if_neg c64] | rw [if_neg (not_not_intro c64)]
                  try first | rw [if_pos c72] | rw [if_neg c72] | rw [if_neg (not_not_intro c72)]
                  try first | rw [if_pos cR] | rw [if_neg cR] | rw [if_neg (not_not_intro cR)]
                  try rfl
                rw [e] at h; exact h _ (frC_sI (by decide)) (repCl_rfz hX (by decide) (by decide))
            · exact absurd c77 (by decide)
      · simp only [b2_0, Decidable.not_not] at c41
        refine g_aloadR dX6_copy_44 rfl ?_
        refine n_v0i (n' := 0) dX6_copy_46 mX5_isRow lX6_88 rfl hW (vld_sh (shx_lt _)) rfl rfl ⟨Nat.le_of_ble_eq_true rfl, Nat.le_of_ble_eq_true rfl⟩ ⟨Nat.zero_le _, Nat.zero_le _⟩ (Nat.le_of_ble_eq_true rfl) ?_
        refine wp_isRow (by exact hW) (shx_lt _) hrq hoq ?_
        refine ⟨_, rfl, ?_⟩
        refine g_if_eq (tgt := 56) dX6_copy_49 (by decide) (fun c49 => ?_) (fun c49 => ?_)
        · simp only [b2_0, Decidable.not_not] at c49
          have cR : ¬ ((shV X p).1 = 1 ∧ (shV X q).1 = 1) := fun y => c49 y.2
          refine g_iconst dX6_copy_56 (v := 0) (by decide) ?_
          refine g_istore_8 dX6_copy_57 rfl ?_
          refine g_aloadR dX6_copy_59 rfl ?_
          refine n_v0i (n' := 0) dX6_copy_61 mX5_isPerson lX6_92 rfl hW (vld_sh (shx_lt _)) rfl rfl ⟨Nat.le_of_ble_eq_true rfl, Nat.le_of_ble_eq_true rfl⟩ ⟨Nat.zero_le _, Nat.zero_le _⟩ (Nat.le_of_ble_eq_true rfl) ?_
          refine wp_isPerson (by exact hW) (shx_lt _) hrp hop ?_
          refine ⟨_, rfl, ?_⟩
          refine g_if_ne (tgt := 93) dX6_copy_64 (by decide) (fun c64 => ?_) (fun c64 => ?_)
          · simp only [b2_0, Decidable.not_not] at c64
            refine g_aloadR_n dX6_copy_93 rfl rfl ?_
            refine g_bipush dX6_copy_94 (v := (-2)) (by decide) ?_
            refine n_v1i (n' := 0) dX6_copy_96 mX6_refuse lX6_66 rfl hW vld_x0 rfl rfl ⟨Nat.le_of_ble_eq_true rfl, Nat.le_of_ble_eq_true rfl⟩ ⟨Nat.zero_le _, Nat.zero_le _⟩ (Nat.le_of_ble_eq_true rfl) ?_
            refine wp_X6_refuse (j := 2) (by exact hW) (by decide) (by decide) ?_
            refine ⟨_, rfl, ?_⟩
            refine g_iret dX6_copy_99 rfl ?_
            have e : opCopy X p q i j n = rfX X 2 := by
              unfold opCopy
              try first | rw [if_pos c5] | rw [if_neg c5] | rw [if_neg (not_not_intro c5)]
              try first | rw [if_pos c13] | rw [if_neg c13] | rw [if_neg (not_not_intro c13)]
              try first | rw [if_pos c64] | rw [if_neg c64] | rw [if_neg (not_not_intro c64)]
              try first | rw [if_pos cR] | rw [if_neg cR] | rw [if_neg (not_not_intro cR)]
              try rfl
            rw [e] at h; exact h _ (frC_sI (by decide)) (repCl_rfz hX (by decide) (by decide))
          · simp only [b2_0, Decidable.not_not] at c64
            refine g_aloadR dX6_copy_67 rfl ?_
            refine n_v0i (n' := 0) dX6_copy_69 mX5_isPerson lX6_92 rfl hW (vld_sh (shx_lt _)) rfl rfl ⟨Nat.le_of_ble_eq_true rfl, Nat.le_of_ble_eq_true rfl⟩ ⟨Nat.zero_le _, Nat.zero_le _⟩ (Nat.le_of_ble_eq_true rfl) ?_
            refine wp_isPerson (by exact hW) (shx_lt _) hrq hoq ?_
            refine ⟨_, rfl, ?_⟩
            refine g_if_ne (tgt := 93) dX6_copy_72 (by decide) (fun c72 => ?_) (fun c72 => ?_)
            · simp only [b2_0, Decidable.not_not] at c72
              refine g_aloadR_n dX6_copy_93 rfl rfl ?_
              refine g_bipush dX6_copy_94 (v := (-2)) (by decide) ?_
              refine n_v1i (n' := 0) dX6_copy_96 mX6_refuse lX6_66 rfl hW vld_x0 rfl rfl ⟨Nat.le_of_ble_eq_true rfl, Nat.le_of_ble_eq_true rfl⟩ ⟨Nat.zero_le _, Nat.zero_le _⟩ (Nat.le_of_ble_eq_true rfl) ?_
              refine wp_X6_refuse (j := 2) (by exact hW) (by decide) (by decide) ?_
              refine ⟨_, rfl, ?_⟩
              refine g_iret dX6_copy_99 rfl ?_
              have e : opCopy X p q i j n = rfX X 2 := by
                unfold opCopy
                try first | rw [if_pos c5] | rw [if_neg c5] | rw [if_neg (not_not_intro c5)]
                try first | rw [if_pos c13] | rw [if_neg c13] | rw [if_neg (not_not_intro c13)]
                try first | rw [if_pos c64] | rw [if_neg c64] | rw [if_neg (not_not_intro c64)]
                try first | rw [if_pos c72] | rw [if_neg c72] | rw [if_neg (not_not_intro c72)]
                try first | rw [if_pos cR] | rw [if_neg cR] | rw [if_neg (not_not_intro cR)]
                try rfl
              rw [e] at h; exact h _ (frC_sI (by decide)) (repCl_rfz hX (by decide) (by decide))
            · simp only [b2_0, Decidable.not_not] at c72
              refine g_iload dX6_copy_75 rfl ?_
              refine g_if_eq (tgt := 100) dX6_copy_77 (by decide) (fun c77 => ?_) (fun c77 => ?_)
              · refine g_iload dX6_copy_100 rfl ?_
                refine g_if_ne (tgt := 112) dX6_copy_102 (by decide) (fun c102 => ?_) (fun c102 => ?_)
                · exact absurd c102 (by decide)
                · refine g_aloadR_n dX6_copy_105 rfl rfl ?_
                  refine g_bipush dX6_copy_106 (v := (-3)) (by decide) ?_
                  refine n_v1i (n' := 0) dX6_copy_108 mX6_refuse lX6_66 rfl hW vld_x0 rfl rfl ⟨Nat.le_of_ble_eq_true rfl, Nat.le_of_ble_eq_true rfl⟩ ⟨Nat.zero_le _, Nat.zero_le _⟩ (Nat.le_of_ble_eq_true rfl) ?_
                  refine wp_X6_refuse (j := 3) (by exact hW) (by decide) (by decide) ?_
                  refine ⟨_, rfl, ?_⟩
                  refine g_iret dX6_copy_111 rfl ?_
                  have e : opCopy X p q i j n = rfX X 3 := by
                    unfold opCopy
                    try first | rw [if_pos c5] | rw [if_neg c5] | rw [if_neg (not_not_intro c5)]
                    try first | rw [if_pos c13] | rw [if_neg c13] | rw [if_neg (not_not_intro c13)]
                    try first | rw [if_pos c64] | rw [if_neg c64] | rw [if_neg (not_not_intro c64)]
                    try first | rw [if_pos c72] | rw [if_neg c72] | rw [if_neg (not_not_intro c72)]
                    try first | rw [if_pos cR] | rw [if_neg cR] | rw [if_neg (not_not_intro cR)]
                    try rfl
                  rw [e] at h; exact h _ (frC_sI (by decide)) (repCl_rfz hX (by decide) (by decide))
              · exact absurd c77 (by decide)
        · simp only [b2_0, Decidable.not_not] at c49
          have cR : (shV X p).1 = 1 ∧ (shV X q).1 = 1 := ⟨c41, c49⟩
          refine g_iconst dX6_copy_52 (v := 1) (by decide) ?_
          refine g_goto (tgt := 57) dX6_copy_53 (by decide) ?_
          refine g_istore_8 dX6_copy_57 rfl ?_
          refine g_aloadR dX6_copy_59 rfl ?_
          refine n_v0i (n' := 0) dX6_copy_61 mX5_isPerson lX6_92 rfl hW (vld_sh (shx_lt _)) rfl rfl ⟨Nat.le_of_ble_eq_true rfl, Nat.le_of_ble_eq_true rfl⟩ ⟨Nat.zero_le _, Nat.zero_le _⟩ (Nat.le_of_ble_eq_true rfl) ?_
          refine wp_isPerson (by exact hW) (shx_lt _) hrp hop ?_
          refine ⟨_, rfl, ?_⟩
          refine g_if_ne (tgt := 93) dX6_copy_64 (by decide) (fun c64 => ?_) (fun c64 => ?_)
          · simp only [b2_0, Decidable.not_not] at c64
            refine g_aloadR_n dX6_copy_93 rfl rfl ?_
            refine g_bipush dX6_copy_94 (v := (-2)) (by decide) ?_
            refine n_v1i (n' := 0) dX6_copy_96 mX6_refuse lX6_66 rfl hW vld_x0 rfl rfl ⟨Nat.le_of_ble_eq_true rfl, Nat.le_of_ble_eq_true rfl⟩ ⟨Nat.zero_le _, Nat.zero_le _⟩ (Nat.le_of_ble_eq_true rfl) ?_
            refine wp_X6_refuse (j := 2) (by exact hW) (by decide) (by decide) ?_
            refine ⟨_, rfl, ?_⟩
            refine g_iret dX6_copy_99 rfl ?_
            have e : opCopy X p q i j n = rfX X 2 := by
              unfold opCopy
              try first | rw [if_pos c5] | rw [if_neg c5] | rw [if_neg (not_not_intro c5)]
              try first | rw [if_pos c13] | rw [if_neg c13] | rw [if_neg (not_not_intro c13)]
              try first | rw [if_pos c64] | rw [if_neg c64] | rw [if_neg (not_not_intro c64)]
              try first | rw [if_pos cR] | rw [if_neg cR] | rw [if_neg (not_not_intro cR)]
              try rfl
            rw [e] at h; exact h _ (frC_sI (by decide)) (repCl_rfz hX (by decide) (by decide))
          · simp only [b2_0, Decidable.not_not] at c64
            refine g_aloadR dX6_copy_67 rfl ?_
            refine n_v0i (n' := 0) dX6_copy_69 mX5_isPerson lX6_92 rfl hW (vld_sh (shx_lt _)) rfl rfl ⟨Nat.le_of_ble_eq_true rfl, Nat.le_of_ble_eq_true rfl⟩ ⟨Nat.zero_le _, Nat.zero_le _⟩ (Nat.le_of_ble_eq_true rfl) ?_
            refine wp_isPerson (by exact hW) (shx_lt _) hrq hoq ?_
            refine ⟨_, rfl, ?_⟩
            refine g_if_ne (tgt := 93) dX6_copy_72 (by decide) (fun c72 => ?_) (fun c72 => ?_)
            · simp only [b2_0, Decidable.not_not] at c72
              refine g_aloadR_n dX6_copy_93 rfl rfl ?_
              refine g_bipush dX6_copy_94 (v := (-2)) (by decide) ?_
              refine n_v1i (n' := 0) dX6_copy_96 mX6_refuse lX6_66 rfl hW vld_x0 rfl rfl ⟨Nat.le_of_ble_eq_true rfl, Nat.le_of_ble_eq_true rfl⟩ ⟨Nat.zero_le _, Nat.zero_le _⟩ (Nat.le_of_ble_eq_true rfl) ?_
              refine wp_X6_refuse (j := 2) (by exact hW) (by decide) (by decide) ?_
              refine ⟨_, rfl, ?_⟩
              refine g_iret dX6_copy_99 rfl ?_
              have e : opCopy X p q i j n = rfX X 2 := by
                unfold opCopy
                try first | rw [if_pos c5] | rw [if_neg c5] | rw [if_neg (not_not_intro c5)]
                try first | rw [if_pos c13] | rw [if_neg c13] | rw [if_neg (not_not_intro c13)]
                try first | rw [if_pos c64] | rw [if_neg c64] | rw [if_neg (not_not_intro c64)]
                try first | rw [if_pos c72] | rw [if_neg c72] | rw [if_neg (not_not_intro c72)]
                try first | rw [if_pos cR] | rw [if_neg cR] | rw [if_neg (not_not_intro cR)]
                try rfl
              rw [e] at h; exact h _ (frC_sI (by decide)) (repCl_rfz hX (by decide) (by decide))
            · simp only [b2_0, Decidable.not_not] at c72
              refine g_iload dX6_copy_75 rfl ?_
              refine g_if_eq (tgt := 100) dX6_copy_77 (by decide) (fun c77 => ?_) (fun c77 => ?_)
              · exact absurd c77 (by decide)
              · refine g_aloadR dX6_copy_80 rfl ?_
                refine n_getI dX6_copy_82 fX6_95 rfl hW (vld_sh (shx_lt _)) (Or.inl rfl) ?_
                refine g_aloadR dX6_copy_85 rfl ?_
                refine n_getI dX6_copy_87 fX6_95 rfl hW (vld_sh (shx_lt _)) (Or.inl rfl) ?_
                refine g_icmp_eq (tgt := 100) dX6_copy_90 (by decide) (fun c90 => ?_) (fun c90 => ?_)
                · rw [fp0, fq0, show sortF (shV X p) = (shV X p).2.1 from if_pos cR.1, show sortF (shV X q) = (shV X q).2.1 from if_pos cR.2] at c90
                  refine g_iload dX6_copy_100 rfl ?_
                  refine g_if_ne (tgt := 112) dX6_copy_102 (by decide) (fun c102 => ?_) (fun c102 => ?_)
                  · refine g_iload dX6_copy_112 rfl ?_
                    refine g_if_ge (tgt := 124) dX6_copy_114 (by decide) (fun c114 => ?_) (fun c114 => ?_)
                    · refine g_aloadR dX6_copy_124 rfl ?_
                      refine g_iload_n dX6_copy_126 rfl rfl ?_
                      refine g_iload dX6_copy_127 rfl ?_
                      refine n_v2i (n' := 0) dX6_copy_129 mX5_hasStretch lX6_98 rfl hW (vld_sh (shx_lt _)) rfl rfl ⟨Nat.le_of_ble_eq_true rfl, Nat.le_of_ble_eq_true rfl⟩ ⟨Nat.zero_le _, Nat.zero_le _⟩ (Nat.le_of_ble_eq_true rfl) ?_
                      refine wp_X5_hasStretch (by exact hW) (shx_lt _) fp2 llp ?_
                      refine ⟨_, rfl, ?_⟩
                      refine g_if_eq (tgt := 147) dX6_copy_132 (by decide) (fun c132 => ?_) (fun c132 => ?_)
                      · simp only [b2_0, Decidable.not_not] at c132
                        refine g_aloadR_n dX6_copy_147 rfl rfl ?_
                        refine g_bipush dX6_copy_148 (v := (-5)) (by decide) ?_
                        refine n_v1i (n' := 0) dX6_copy_150 mX6_refuse lX6_66 rfl hW vld_x0 rfl rfl ⟨Nat.le_of_ble_eq_true rfl, Nat.le_of_ble_eq_true rfl⟩ ⟨Nat.zero_le _, Nat.zero_le _⟩ (Nat.le_of_ble_eq_true rfl) ?_
                        refine wp_X6_refuse (j := 5) (by exact hW) (by decide) (by decide) ?_
                        refine ⟨_, rfl, ?_⟩
                        refine g_iret dX6_copy_153 rfl ?_
                        have e : opCopy X p q i j n = rfX X 5 := by
                          unfold opCopy
                          try first | rw [if_pos c5] | rw [if_neg c5] | rw [if_neg (not_not_intro c5)]
                          try first | rw [if_pos c13] | rw [if_neg c13] | rw [if_neg (not_not_intro c13)]
                          try first | rw [if_pos c64] | rw [if_neg c64] | rw [if_neg (not_not_intro c64)]
                          try first | rw [if_pos c72] | rw [if_neg c72] | rw [if_neg (not_not_intro c72)]
                          try first | rw [if_pos cR] | rw [if_neg cR] | rw [if_neg (not_not_intro cR)]
                          try first | rw [if_pos c90] | rw [if_neg c90] | rw [if_neg (not_not_intro c90)]
                          try first | rw [if_pos c114] | rw [if_neg c114] | rw [if_neg (not_not_intro c114)]
                          try first | rw [if_pos c132] | rw [if_neg c132] | rw [if_neg (not_not_intro c132)]
                          try rfl
                        rw [e] at h; exact h _ (frC_sI (by decide)) (repCl_rfz hX (by decide) (by decide))
                      · simp only [b2_0, Decidable.not_not] at c132
                        refine g_aloadR dX6_copy_135 rfl ?_
                        refine g_iload dX6_copy_137 rfl ?_
                        refine g_iload dX6_copy_139 rfl ?_
                        refine n_v2i (n' := 0) dX6_copy_141 mX5_hasStretch lX6_98 rfl hW (vld_sh (shx_lt _)) rfl rfl ⟨Nat.le_of_ble_eq_true rfl, Nat.le_of_ble_eq_true rfl⟩ ⟨Nat.zero_le _, Nat.zero_le _⟩ (Nat.le_of_ble_eq_true rfl) ?_
                        refine wp_X5_hasStretch (by exact hW) (shx_lt _) fq2 llq ?_
                        refine ⟨_, rfl, ?_⟩
                        refine g_if_ne (tgt := 154) dX6_copy_144 (by decide) (fun c144 => ?_) (fun c144 => ?_)
                        · simp only [b2_0, Decidable.not_not] at c144
                          have i0 : ¬ i < 0 := fun y => by simp only [Int32.lt_iff_toInt_lt, zcs] at y; omega
                          have j0 : ¬ j < 0 := fun y => by simp only [Int32.lt_iff_toInt_lt, zcs] at y; omega
                          have n0 : ¬ n < 0 := fun y => by simp only [Int32.lt_iff_toInt_lt, zcs] at y; omega
                          have ic : i.toNatClampNeg = i.toInt.toNat := rfl
                          have jc : j.toNatClampNeg = j.toInt.toNat := rfl
                          have nc : n.toNatClampNeg = n.toInt.toNat := rfl
                          have h4 : i.toNatClampNeg + n.toNatClampNeg ≤ 160 := by omega
                          have h5 : j.toNatClampNeg + n.toNatClampNeg ≤ 160 := by omega
                          refine g_aloadR dX6_copy_154 rfl ?_
                          refine n_getR dX6_copy_156 fX6_102 rfl hW (vld_sh (shx_lt _)) rfl rfl ?_
                          refine g_iload_n dX6_copy_159 rfl rfl ?_
                          refine g_aloadR dX6_copy_160 rfl ?_
                          refine n_getR dX6_copy_162 fX6_102 rfl hW (vld_sh (shx_lt _)) rfl rfl ?_
                          refine g_iload dX6_copy_165 rfl ?_
                          refine g_iload dX6_copy_167 rfl ?_
                          refine n_copyl dX6_copy_169 ac_w.2.2.2 rfl rfl hW (vld_el (shx_lt _)) (vld_el (shx_lt _)) i0 j0 n0 h4 h5 ⟨Nat.le_of_ble_eq_true rfl, Nat.le_of_ble_eq_true rfl⟩ ?_
                          refine g_iconst dX6_copy_172 (v := 1) (by decide) ?_
                          refine g_iret dX6_copy_173 rfl ?_
                          have e : opCopy X p q i j n = (1, setH X q.toNatClampNeg (cpyS (shV X p) (shV X q) i.toNatClampNeg j.toNatClampNeg n.toNatClampNeg)) := by
                            unfold opCopy
                            try first | rw [if_pos c5] | rw [if_neg c5] | rw [if_neg (not_not_intro c5)]
                            try first | rw [if_pos c13] | rw [if_neg c13] | rw [if_neg (not_not_intro c13)]
                            try first | rw [if_pos c64] | rw [if_neg c64] | rw [if_neg (not_not_intro c64)]
                            try first | rw [if_pos c72] | rw [if_neg c72] | rw [if_neg (not_not_intro c72)]
                            try first | rw [if_pos cR] | rw [if_neg cR] | rw [if_neg (not_not_intro cR)]
                            try first | rw [if_pos c90] | rw [if_neg c90] | rw [if_neg (not_not_intro c90)]
                            try first | rw [if_pos c114] | rw [if_neg c114] | rw [if_neg (not_not_intro c114)]
                            try first | rw [if_pos c132] | rw [if_neg c132] | rw [if_neg (not_not_intro c132)]
                            try first | rw [if_pos c144] | rw [if_neg c144] | rw [if_neg (not_not_intro c144)]
                            try rfl
                          rw [e] at h
                          obtain ⟨hq1, hq2⟩ := IN_nI c13
                          rw [show shx q = q.toNatClampNeg from if_pos c13]
                          have hlp : lenF (shV X p) = (shV X p).2.2.2.1 := if_pos cR.1
                          have hlq : lenF (shV X q) = (shV X q).2.2.2.1 := if_pos cR.2
                          refine h _ ⟨rfl, fun b hb => ⟨rfl, by funext z; simp only [mJ, cpJ]; rw [if_neg (by intro y; subst y; revert hb; simp)]⟩⟩ (hX.shelf hq2 (fun b h5 h6 => ⟨rfl, by funext z; simp [mJ, cpJ, h6]⟩) ?_)
                          have hrq2 := hrq
                          rw [show shx q = q.toNatClampNeg from if_pos c13] at hrq2
                          refine Or.inr (Or.inl ⟨rfl, (hrq2.f.1).trans (if_pos cR.2), (hrq2.f.2.1).trans (if_neg (by rw [cR.2]; decide)), (hrq2.f.2.2).trans (congrArg nI hlq), fun z hz => ?_⟩)
                          simp only [mJ, cpJ, cpyS, if_true]
                          unfold va_cpy
                          by_cases y : j.toNatClampNeg ≤ z ∧ z < j.toNatClampNeg + n.toNatClampNeg
                          · rw [if_pos y, if_pos y]; exact hrp.j cR.1 (by omega)
                          · rw [if_neg y, if_neg y]; exact hrq2.j cR.2 hz
                        · simp only [b2_0, Decidable.not_not] at c144
                          refine g_aloadR_n dX6_copy_147 rfl rfl ?_
                          refine g_bipush dX6_copy_148 (v := (-5)) (by decide) ?_
                          refine n_v1i (n' := 0) dX6_copy_150 mX6_refuse lX6_66 rfl hW vld_x0 rfl rfl ⟨Nat.le_of_ble_eq_true rfl, Nat.le_of_ble_eq_true rfl⟩ ⟨Nat.zero_le _, Nat.zero_le _⟩ (Nat.le_of_ble_eq_true rfl) ?_
                          refine wp_X6_refuse (j := 5) (by exact hW) (by decide) (by decide) ?_
                          refine ⟨_, rfl, ?_⟩
                          refine g_iret dX6_copy_153 rfl ?_
                          have e : opCopy X p q i j n = rfX X 5 := by
                            unfold opCopy
                            try first | rw [if_pos c5] | rw [if_neg c5] | rw [if_neg (not_not_intro c5)]
                            try first | rw [if_pos c13] | rw [if_neg c13] | rw [if_neg (not_not_intro c13)]
                            try first | rw [if_pos c64] | rw [if_neg c64] | rw [if_neg (not_not_intro c64)]
                            try first | rw [if_pos c72] | rw [if_neg c72] | rw [if_neg (not_not_intro c72)]
                            try first | rw [if_pos cR] | rw [if_neg cR] | rw [if_neg (not_not_intro cR)]
                            try first | rw [if_pos c90] | rw [if_neg c90] | rw [if_neg (not_not_intro c90)]
                            try first | rw [if_pos c114] | rw [if_neg c114] | rw [if_neg (not_not_intro c114)]
                            try first | rw [if_pos c132] | rw [if_neg c132] | rw [if_neg (not_not_intro c132)]
                            try first | rw [if_pos c144] | rw [if_neg c144] | rw [if_neg (not_not_intro c144)]
                            try rfl
                          rw [e] at h; exact h _ (frC_sI (by decide)) (repCl_rfz hX (by decide) (by decide))
                    · refine g_aloadR_n dX6_copy_117 rfl rfl ?_
                      refine g_bipush dX6_copy_118 (v := (-4)) (by decide) ?_
                      refine n_v1i (n' := 0) dX6_copy_120 mX6_refuse lX6_66 rfl hW vld_x0 rfl rfl ⟨Nat.le_of_ble_eq_true rfl, Nat.le_of_ble_eq_true rfl⟩ ⟨Nat.zero_le _, Nat.zero_le _⟩ (Nat.le_of_ble_eq_true rfl) ?_
                      refine wp_X6_refuse (j := 4) (by exact hW) (by decide) (by decide) ?_
                      refine ⟨_, rfl, ?_⟩
                      refine g_iret dX6_copy_123 rfl ?_
                      have e : opCopy X p q i j n = rfX X 4 := by
                        unfold opCopy
                        try first | rw [if_pos c5] | rw [if_neg c5] | rw [if_neg (not_not_intro c5)]
                        try first | rw [if_pos c13] | rw [if_neg c13] | rw [if_neg (not_not_intro c13)]
                        try first | rw [if_pos c64] | rw [if_neg c64] | rw [if_neg (not_not_intro c64)]
                        try first | rw [if_pos c72] | rw [if_neg c72] | rw [if_neg (not_not_intro c72)]
                        try first | rw [if_pos cR] | rw [if_neg cR] | rw [if_neg (not_not_intro cR)]
                        try first | rw [if_pos c90] | rw [if_neg c90] | rw [if_neg (not_not_intro c90)]
                        try first | rw [if_pos c114] | rw [if_neg c114] | rw [if_neg (not_not_intro c114)]
                        try rfl
                      rw [e] at h; exact h _ (frC_sI (by decide)) (repCl_rfz hX (by decide) (by decide))
                  · exact absurd c102 (by decide)
                · rw [fp0, fq0, show sortF (shV X p) = (shV X p).2.1 from if_pos cR.1, show sortF (shV X q) = (shV X q).2.1 from if_pos cR.2] at c90
                  refine g_aloadR_n dX6_copy_93 rfl rfl ?_
                  refine g_bipush dX6_copy_94 (v := (-2)) (by decide) ?_
                  refine n_v1i (n' := 0) dX6_copy_96 mX6_refuse lX6_66 rfl hW vld_x0 rfl rfl ⟨Nat.le_of_ble_eq_true rfl, Nat.le_of_ble_eq_true rfl⟩ ⟨Nat.zero_le _, Nat.zero_le _⟩ (Nat.le_of_ble_eq_true rfl) ?_
                  refine wp_X6_refuse (j := 2) (by exact hW) (by decide) (by decide) ?_
                  refine ⟨_, rfl, ?_⟩
                  refine g_iret dX6_copy_99 rfl ?_
                  have e : opCopy X p q i j n = rfX X 2 := by
                    unfold opCopy
                    try first | rw [if_pos c5] | rw [if_neg c5] | rw [if_neg (not_not_intro c5)]
                    try first | rw [if_pos c13] | rw [if_neg c13] | rw [if_neg (not_not_intro c13)]
                    try first | rw [if_pos c64] | rw [if_neg c64] | rw [if_neg (not_not_intro c64)]
                    try first | rw [if_pos c72] | rw [if_neg c72] | rw [if_neg (not_not_intro c72)]
                    try first | rw [if_pos cR] | rw [if_neg cR] | rw [if_neg (not_not_intro cR)]
                    try first | rw [if_pos c90] | rw [if_neg c90] | rw [if_neg (not_not_intro c90)]
                    try rfl
                  rw [e] at h; exact h _ (frC_sI (by decide)) (repCl_rfz hX (by decide) (by decide))
    · simp only [b2_0, Decidable.not_not] at c13
      refine g_aloadR_n dX6_copy_16 rfl rfl ?_
      refine g_iconst dX6_copy_17 (v := (-1)) (by decide) ?_
      refine n_v1i (n' := 0) dX6_copy_18 mX6_refuse lX6_66 rfl hW vld_x0 rfl rfl ⟨Nat.le_of_ble_eq_true rfl, Nat.le_of_ble_eq_true rfl⟩ ⟨Nat.zero_le _, Nat.zero_le _⟩ (Nat.le_of_ble_eq_true rfl) ?_
      refine wp_X6_refuse (j := 1) (by exact hW) (by decide) (by decide) ?_
      refine ⟨_, rfl, ?_⟩
      refine g_iret dX6_copy_21 rfl ?_
      have e : opCopy X p q i j n = rfX X 1 := by
        unfold opCopy
        try first | rw [if_pos c5] | rw [if_neg c5] | rw [if_neg (not_not_intro c5)]
        try first | rw [if_pos c13] | rw [if_neg c13] | rw [if_neg (not_not_intro c13)]
        try first | rw [if_pos cR] | rw [if_neg cR] | rw [if_neg (not_not_intro cR)]
        try rfl
      rw [e] at h; exact h _ (frC_sI (by decide)) (repCl_rfz hX (by decide) (by decide))
def dwS (S : Sc) : Sc := gS (gS S 6 (lkF (S.2.1 6))) 2 (drF (S.2.1 6))
def dwI (S : Sc) : Nat → Sc
  | 0 => S
  | j + 1 => evS (dwS (dwI S j))
def dwT (S : Sc) : Nat → Int32
  | 0 => 0
  | j + 1 => dwT S j + nI (seatSum (dwS (dwI S j)) 1)
theorem ush_16 (x : Int32) : ush x 16 = nI (x.toBitVec.toNat / 2 ^ 16) := by
  have h := pk_ushrN (n := x.toBitVec.toNat) x.toBitVec.isLt 16 16 (by decide)
  have e : nI x.toBitVec.toNat = x := by unfold nI; exact Int32.toInt_inj.mp (by simp) |> fun h => h
  rw [e] at h; exact h
theorem drF_in (l : Int32) : IN (drF l) 10 := by
  unfold drF
  have hb := (lkF l).toBitVec.isLt
  have e10 : (10 : Int32) = nI 10 := rfl
  rw [ush_16, e10, pk_rem (by omega) (by decide) (by decide)]
  exact IN_of (Nat.mod_lt _ (by decide)) (by decide)
theorem OkS.dw {S : Sc} (h : OkS S) : OkS (dwS S) := by
  obtain ⟨h1, h2, h3, h4, h5, h6⟩ := h
  exact ⟨h1, h2, drF_in _, h4, h5, h6⟩
theorem OkS.dwi {S : Sc} (h : OkS S) : ∀ j, OkS (dwI S j)
  | 0 => h
  | j + 1 => (OkS.dwi h j).dw.endS _
