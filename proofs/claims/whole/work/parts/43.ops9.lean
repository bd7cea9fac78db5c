/-! THE CLASS'S OWN METHODS: COPIES, DRAWS, STATUS -/
theorem ac_w : Cond.native arraycopyName ∈ TB ∧ Cond.static arraycopyName ∈ TB ∧ Cond.initialized "java/lang/System" ∈ TB ∧ Cond.methodLink RX6 106 arraycopyName ∈ TB := ⟨List.mem_filter.mpr (by decide +kernel), List.mem_filter.mpr (by decide +kernel), List.mem_filter.mpr (by decide +kernel), List.mem_filter.mpr (by decide +kernel)⟩
def cpJ (M : Mem) (a0 a1 : Id) (sp dp n : Nat) : Mem := (M.1, fun b j => if b = a1 then va_cpy (mJ M a0) (mJ M a1) sp dp n j else M.2.1 b j, M.2.2)
section RCP
variable {E : Ev} {R : Room} {k : MK} {Z : ZT} {ca sl pc : Nat} {lv : List (Option AV)} {st : List AV} {M : Mem}
theorem n_copyl {idx : Nat} {a0 a1 : Id} {n0 n1 : Nat} {sp dp n : Int32} (hd : decode k.2.1 pc = .ok (.invokestatic idx, 3)) (hl0 : Cond.methodLink k.1.cls idx arraycopyName ∈ TB) (hs0 : shp a0 = (2, n0)) (hs1 : shp a1 = (2, n1)) (hW : Wi M) (v0 : vld a0 = true) (v1 : vld a1 = true)
    (h1 : ¬ sp < 0) (h2 : ¬ dp < 0) (h3 : ¬ n < 0) (h4 : sp.toNatClampNeg + n.toNatClampNeg ≤ n0) (h5 : dp.toNatClampNeg + n.toNatClampNeg ≤ n1) (hR : 1 ≤ R.frames ∧ (st.map vcat).sum + (nativeFrameWords "java/lang/System" "arraycopy" 5 + 11) ≤ R.locals)
    (h : G E R k Z ca sl (pc + 3) lv st (cpJ M a0 a1 sp.toNatClampNeg dp.toNatClampNeg n.toNatClampNeg)) : G E R k Z ca sl pc lv (vI n :: vI dp :: vR a1 :: vI sp :: vR a0 :: st) M := by
  intro p l e s m args below meth c H locs ls C hw hy hS hl
  have hts := C.2.2.2.2.2.2.1
  have nn : ∀ z : Int32, ¬ z < 0 → z.toInt = (z.toNatClampNeg : Int) := by
    intro z hz
    have hz0 : (0 : Int) ≤ z.toInt := by
      have := Int32.not_lt.mp hz
      simpa using Int32.le_iff_toInt_le.mp this
    show z.toInt = ((z.toInt.toNat : Nat) : Int)
    omega
  intro T hT X
  have hc0 := hy.ar2 hs0 v0 (hW.lt v0)
  have hc1 := hy.ar2 hs1 v1 (hW.lt v1)
  obtain ⟨-, k0, hk0, cm0, hkk0⟩ := hw.2.1.2.1.1 n0 (fun j => .long (mJ M a0 j))
  obtain ⟨-, k1, hk1, cm1, hkk1⟩ := hw.2.1.2.1.1 n1 (fun j => .long (mJ M a1 j))
  obtain ⟨vm', X', step⟩ := X.arraycopy C.1 C.2.2.2.2.2.1 (hts _ hl0) (hts _ ac_w.1) (hts _ ac_w.2.1) (hts _ ac_w.2.2.1) (src := ad E a0) (dst := ad E a1) (cs := arrV (eA E 1) n0 fun j => .long (mJ M a0 j)) (cd := arrV (eA E 1) n1 fun j => .long (mJ M a1 j)) (srcPos := sp) (destPos := dp) (n := n) (by rw [hT]; exact hc0) (by rw [hT]; exact hc1)
    (fun _ h => by cases h) (fun _ h => by cases h) (fun h => by cases h) (fun h => by cases h) hk0 hk1 hkk0 hkk1 (by simp [refKind]) h1 h2 h3
    (by rw [nn sp h1, nn n h3, arrV_size]; omega)
    (by rw [nn dp h2, nn n h3, arrV_size]; omega)
    (fun vm₁ _ i hi => by
      have e : (arrV (eA E 1) n0 fun j => .long (mJ M a0 j)).slots.getD (sp.toNatClampNeg + i) .null = .long (mJ M a0 (sp.toNatClampNeg + i)) := by
        rw [Array.getD_eq_getD_getElem?, arrV_read _ _ (by omega)]
        rfl
      refine ⟨?_, ?_⟩
      · rw [e]; rfl
      · rw [e]
        exact trivial)
    (g := F0 m pc ls ((vI n :: vI dp :: vR a1 :: vI sp :: vR a0 :: st).map (cv E))) rfl (hl.2.1.trans C.2.2.1.symm) (rest := st.map (cv E)) rfl (by rw [C.2.1]; exact hd) hR.1 (by
      have hc : ((st.map (cv E)).map fun v => v.category).sum = (st.map vcat).sum := by rw [List.map_map]; congr 2; funext v; exact cv_vcat
      show 2 * 0 + _ + _ ≤ _
      rw [hc]; have := hR.2; omega)
  have e1 : copied (arrV (eA E 1) n0 fun j => .long (mJ M a0 j)) (arrV (eA E 1) n1 fun j => .long (mJ M a1 j)) sp dp n = arrV (eA E 1) n1 (fun j => .long (va_cpy (mJ M a0) (mJ M a1) sp.toNatClampNeg dp.toNatClampNeg n.toNatClampNeg j)) := va_copied (fun z => .long z) (eA E 1) (eA E 1) (mJ M a0) (mJ M a1) h4
  rw [e1] at X' step
  have hlt : ad E a1 < H.size := (Array.getElem?_eq_some_iff.mp hc1).1
  have hheap : ((T.setVm vm').setCell (ad E a1) (arrV (eA E 1) n1 (fun j => .long (va_cpy (mJ M a0) (mJ M a1) sp.toNatClampNeg dp.toNatClampNeg n.toNatClampNeg j)))).heap = H.setIfInBounds (ad E a1) (arrV (eA E 1) n1 (fun j => .long (va_cpy (mJ M a0) (mJ M a1) sp.toNatClampNeg dp.toNatClampNeg n.toNatClampNeg j))) := by rw [← hT]; rfl
  have oq : ∀ q : Nat, q ≠ ad E a1 → (H.setIfInBounds (ad E a1) (arrV (eA E 1) n1 (fun j => .long (va_cpy (mJ M a0) (mJ M a1) sp.toNatClampNeg dp.toNatClampNeg n.toNatClampNeg j))))[q]? = H[q]? := fun q hq => by simp [Array.getElem?_setIfInBounds, Ne.symm hq]
  have hyN : Wdy E (cpJ M a0 a1 sp.toNatClampNeg dp.toNatClampNeg n.toNatClampNeg) (H.setIfInBounds (ad E a1) (arrV (eA E 1) n1 (fun j => .long (va_cpy (mJ M a0) (mJ M a1) sp.toNatClampNeg dp.toNatClampNeg n.toNatClampNeg j)))) := by
    refine hy.set v1 rfl (by simp) oq ?_ (fun b hb => ⟨rfl, by funext j; simp [mJ, cpJ, hb], rfl⟩)
    unfold cellAt
    rw [hs1]
    show (H.setIfInBounds _ _)[_]? = some (arrV _ _ fun j => .long (mJ (cpJ _ _ _ _ _ _) a1 j))
    rw [Array.getElem?_setIfInBounds, if_pos rfl, if_pos hlt]
    simp [mJ, cpJ]
  obtain ⟨t, a1', b1'⟩ := h p l e s m args below meth c _ _ ls C hw hyN ⟨by simp; exact hS.1, fun q g1 g2 => by
      rw [oq q (fun e => g2 (by rw [e]; exact eZ_ad))]
      exact hS.2.1 q g1 g2, fun q hq => by
      rcases List.mem_append.mp hq with h | h
      · exact hS.2.2 q h
      · obtain ⟨z, -, hz⟩ := List.mem_map.mp h
        rw [← hz]
        exact eZ_ad⟩ hl _ hheap X'
  exact ⟨t, step t a1', b1'⟩
end RCP
