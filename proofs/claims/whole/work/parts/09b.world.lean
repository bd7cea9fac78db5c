/-! THE WORLD AT THE LAW'S START -/
def gvL : List Cond := flatC (Jvm.Cond.and given_1 narrow_1)
def roTm (t : Nat) : Term := .static (roC t) (roF t) "[I"
def jsTm (i : Nat) : Term := .string RX3 (jsX i)
theorem wo_st : ∀ t, t < 4 → Cond.laysStatic (roC t) (roF t) "[I" ∈ lw_tbl ∧ Cond.initialized (roC t) ∈ lw_tbl ∧ Cond.arrayOf (roTm t) .int ∈ gvL ∧ Cond.eq (.length (roTm t)) (.int (Int32.ofNat (roV t).length)) ∈ gvL := by decide +kernel
theorem wo_el : ∀ t, t < 4 → ∀ j, j < (roV t).length → Cond.eq (.elem (roTm t) (.int (Int32.ofNat j))) (.int ((roV t).getD j 0)) ∈ gvL := by decide +kernel
theorem wo_s1 : ∀ i, i < 7 → Cond.stringRef RX3 (jsX i) (jsT i) ∈ lw_tbl ∧ Cond.exactly (jsTm i) "java/lang/String" ∈ gvL ∧ Cond.eq (.field (jsTm i) "java/lang/String" "coder" "B") (.int 0) ∈ gvL ∧ Cond.arrayOf (.field (jsTm i) "java/lang/String" "value" "[B") .byte ∈ gvL := by decide +kernel
def jsLn : List Nat := [6, 6, 4, 5, 4, 6, 3]
def jsBs : List (List Int32) := (List.range 7).map jsB
theorem jsLn_eq : ∀ i, i < 7 → jsLn.getD i 0 = (jsB i).length ∧ jsBs.getD i [] = jsB i ∧ jsLn.getD i 0 < 2 ^ 31 := by decide +kernel
theorem wo_s2 : ∀ i, i < 7 → Cond.eq (.length (.field (jsTm i) "java/lang/String" "value" "[B")) (.int (Int32.ofNat (jsLn.getD i 0))) ∈ gvL := by decide +kernel
theorem wo_s3 : ∀ i, i < 7 → ∀ j, j < jsLn.getD i 0 → Cond.eq (.elem (.field (jsTm i) "java/lang/String" "value" "[B") (.int (Int32.ofNat j))) (.int ((jsBs.getD i []).getD j 0)) ∈ gvL := by decide +kernel
theorem wo_s4 : ∀ i, i < 7 → ∀ j, j < 7 → i < j → Cond.not (.eq (jsTm i) (jsTm j)) ∈ gvL := by decide +kernel
theorem wo_j : Cond.laysStatic "java/lang/String" "COMPACT_STRINGS" "Z" ∈ lw_tbl ∧ Cond.initialized "java/lang/String" ∈ lw_tbl ∧ Cond.eq (.static "java/lang/String" "COMPACT_STRINGS" "Z") (.int 1) ∈ gvL ∧ Cond.laysStatic "jdk/internal/util/Preconditions" "SIOOBE_FORMATTER" "Ljava/util/function/BiFunction;" ∈ lw_tbl ∧ Cond.initialized "jdk/internal/util/Preconditions" ∈ lw_tbl ∧ Cond.isRef (.static "jdk/internal/util/Preconditions" "SIOOBE_FORMATTER" "Ljava/util/function/BiFunction;") ∈ gvL := by decide +kernel
theorem wo_nf : ∀ q ∈ NBf, (Cond.fieldLinkNest q.1 q.2.1 q.2.2.1 q.2.2.2.1 q.2.2.2.2.1 q.2.2.2.2.2) ∈ lw_tbl ∧ (Cond.fieldLinkNest q.1 q.2.1 q.2.2.1 q.2.2.2.1 q.2.2.2.2.1 q.2.2.2.2.2).onTables = true := by decide +kernel
theorem wo_nm : ∀ q ∈ NBm, (Cond.methodLinkNest q.1 q.2.1 q.2.2.1 q.2.2.2) ∈ lw_tbl ∧ (Cond.methodLinkNest q.1 q.2.1 q.2.2.1 q.2.2.2).onTables = true := by decide +kernel
theorem wo_ar : Cond.arrayClass .int ∈ lw_tbl ∧ Cond.arrayClass .long ∈ lw_tbl ∧ Cond.arrayOver (.object RX2) ∈ lw_tbl ∧ Cond.arrayOver (.object RX5) ∈ lw_tbl := by decide +kernel
theorem wo_in : Cond.instantiable RX0 5 ∈ lw_tbl ∧ Cond.instantiable RX1 4 ∈ lw_tbl ∧ Cond.instantiable RX2 10 ∈ lw_tbl ∧ Cond.instantiable RX3 6 ∈ lw_tbl ∧ Cond.instantiable RX4 9 ∈ lw_tbl ∧ Cond.instantiable RX5 4 ∈ lw_tbl ∧ Cond.instantiable RX6 11 ∈ lw_tbl ∧ Cond.instantiable RX7 50 ∈ lw_tbl := by decide +kernel
theorem arr_of {args : Array Value} {s : State} {ty : FieldType} (h : (Cond.arrayClass ty).before args s = true) : ∃ cA : ClassId, ArrOfT s cA ty ∧ s.vm.findClass ("[" ++ ty.toString) = some cA := by
  obtain ⟨c, k, comp, h1, h2, h3⟩ := Cond.arrayClass_spec (args := args) (first := s) (o := none) (s := s) (idx := []) h
  exact ⟨c, fun n z => ⟨fun k h => (by cases h), k, h2, comp, h3⟩, h1⟩
theorem arr_ov {args : Array Value} {s : State} {C : String} (h : (Cond.arrayOver (.object C)).before args s = true) : ∃ cA : ClassId, ArrOfT s cA (.object C) ∧ va_RA s cA (.object C) := by
  obtain ⟨comp, c, k, h1, h2, h3, h4, h5⟩ := Cond.arrayOver_spec (args := args) (first := s) (o := none) (s := s) (idx := []) h
  exact ⟨c, fun n z => ⟨fun k h => (by cases h), k, h3, comp, h4⟩, k, comp, h3, h4, h1, h5⟩
theorem wst_of {p : Program} {s : State} {m : MethodId} {meth : Method} {c : Code} {b L : Nat} {xs : Nat → Int32} (C0 : lw_At p s m meth c b L xs) : ∃ E : Ev, eB E = s.heap.size ∧ eL E = L ∧ eX E = xs ∧ eR E 4 = b ∧ Wst E s s.heap := by
  obtain ⟨hx, hb, hr, hml, hown, hts, hX, hbl, hlocks, hgv⟩ := C0
  have hg : ∀ w ∈ gvL, w.before #[Value.ref b] s = true := flat_of_before _ hgv
  have hA : ∀ a : Nat, a < s.heap.size → ¬ (fun q : Nat => s.heap.size ≤ q) a := fun a h q => by omega
  obtain ⟨i0, i1, i2, i3, i4, i5, i6, i7⟩ := wo_in
  obtain ⟨c0, s0, k0⟩ := u_known (C := RX0) (T := TX0) (N := 5) hts (fun w hw => (fw_ok0 w hw).1) (hts _ i0)
  obtain ⟨c1, s1, k1⟩ := u_known (C := RX1) (T := TX1) (N := 4) hts (fun w hw => (fw_ok1 w hw).1) (hts _ i1)
  obtain ⟨c2, s2, k2⟩ := u_known (C := RX2) (T := TX2) (N := 10) hts (fun w hw => (fw_ok2 w hw).1) (hts _ i2)
  obtain ⟨c3, s3, k3⟩ := u_known (C := RX3) (T := TX3) (N := 6) hts (fun w hw => (fw_ok3 w hw).1) (hts _ i3)
  obtain ⟨c4, s4, k4⟩ := u_known (C := RX4) (T := TX4) (N := 9) hts (fun w hw => (fw_ok4 w hw).1) (hts _ i4)
  obtain ⟨c5, s5, k5⟩ := u_known (C := RX5) (T := TX5) (N := 4) hts (fun w hw => (fw_ok5 w hw).1) (hts _ i5)
  obtain ⟨c6, s6, k6⟩ := u_known (C := RX6) (T := TX6) (N := 11) hts (fun w hw => (fw_ok6 w hw).1) (hts _ i6)
  obtain ⟨c7, s7, k7⟩ := u_known (C := RX7) (T := TX7) (N := 50) hts (fun w hw => (fw_ok7 w hw).1) (hts _ i7)
  obtain ⟨a0, f0, g0⟩ := arr_of (hts _ wo_ar.1)
  obtain ⟨a1, f1, g1⟩ := arr_of (hts _ wo_ar.2.1)
  obtain ⟨a2, f2, g2⟩ := arr_ov (hts _ wo_ar.2.2.1)
  obtain ⟨a3, f3, g3⟩ := arr_ov (hts _ wo_ar.2.2.2)
  have hst : ∀ t : Nat, ∃ q : Nat, t < 4 → va_Z (roC t) (roF t) "[I" (.ref q) (fun q : Nat => s.heap.size ≤ q) s s.heap ∧ va_T .int q (roV t).length (fun j => .int ((roV t).getD j 0)) (fun q : Nat => s.heap.size ≤ q) s s.heap := by
    intro t
    by_cases ht : t < 4
    · obtain ⟨w1, w2, w3, w4⟩ := wo_st t ht
      have hl31 : (roV t).length < 2 ^ 31 := by
        have : ∀ t, t < 4 → (roV t).length < 2 ^ 31 := by decide +kernel
        exact this t ht
      obtain ⟨q, q1, q2⟩ := va_Tof (f := fun j => .int ((roV t).getD j 0)) hl31 (hg _ w3) (va_eqt (hg _ w4)) (fun j hj => va_eqt (hg _ (wo_el t ht j hj))) hA
      exact ⟨q, fun _ => ⟨va_Zref (hts _ w1) (hts _ w2) q1 hA, q2⟩⟩
    · exact ⟨0, fun h => absurd h ht⟩
  obtain ⟨sa, hsa⟩ := Classical.axiomOfChoice hst
  obtain ⟨adK, adV, hS, hSt⟩ := vk_Sof (args := #[Value.ref b]) (s := s) (N := 7) (tm := jsTm) (len := jsLn) (byt := jsBs) (A := fun q : Nat => s.heap.size ≤ q) (fun i hi => (jsLn_eq i hi).2.2) (fun i hi => hg _ (wo_s1 i hi).2.1) (fun i hi => hg _ (wo_s1 i hi).2.2.1) (fun i hi => hg _ (wo_s1 i hi).2.2.2) (fun i hi => hg _ (wo_s2 i hi)) (fun i hi j hj => hg _ (wo_s3 i hi j hj))
    (fun i j hi hj hij => by
      rcases Nat.lt_or_ge i j with q | q
      · exact Or.inl (hg _ (wo_s4 i hi j hj q))
      · exact Or.inr (hg _ (wo_s4 j hj i hi (by omega)))) hA
  obtain ⟨fz, fo, hfz⟩ : ∃ (fz fo : Nat), va_Z "jdk/internal/util/Preconditions" "SIOOBE_FORMATTER" "Ljava/util/function/BiFunction;" (if fo = 0 then .ref fz else .null) (fun q : Nat => s.heap.size ≤ q) s s.heap := by
    rcases va_Zqof (hts _ wo_j.2.2.2.1) (hts _ wo_j.2.2.2.2.1) (hg _ wo_j.2.2.2.2.2) hA with h | ⟨t, h⟩
    · exact ⟨0, 1, by rw [if_neg (by decide)]; exact h⟩
    · exact ⟨t, 0, by rw [if_pos rfl]; exact h⟩
  refine ⟨(s.heap.size, ((fun k => [c0, c1, c2, c3, c4, c5, c6, c7].getD k c0), (fun k => [s0, s1, s2, s3, s4, s5, s6, s7].getD k s0)), (fun k => [a0, a1, a2, a3].getD k a0), (fun t => if t < 4 then sa t else if t = 4 then b else if t = 30 then fz else if t = 31 then fo else if t < 20 then adK (t - 10) else adV (t - 20)), L, xs), rfl, rfl, rfl, rfl, ?_⟩
  refine ⟨fun k q hq => ?_, ⟨⟨f0, g0⟩, ⟨f1, g1⟩, ⟨f2, g2⟩, ⟨f3, g3⟩⟩, ⟨⟨fun q hq => va_Nw.of (wo_nf q hq).2 (hts _ (wo_nf q hq).1), fun q hq => va_Nw.of (wo_nm q hq).2 (hts _ (wo_nm q hq).1)⟩, va_AO.of (hts _ wo_ar.2.2.1), va_AO.of (hts _ wo_ar.2.2.2)⟩, fun t ht => ?_, hX, hbl, fun q => by have q : s.heap.size ≤ b := q; omega, ?_⟩
  · match k, hq with
    | 0, hq => cases hq; exact k0
    | 1, hq => cases hq; exact k1
    | 2, hq => cases hq; exact k2
    | 3, hq => cases hq; exact k3
    | 4, hq => cases hq; exact k4
    | 5, hq => cases hq; exact k5
    | 6, hq => cases hq; exact k6
    | 7, hq => cases hq; exact k7
    | k + 8, hq => simp [classes] at hq
  · have h := hsa t ht
    have e : (if t < 4 then sa t else if t = 4 then b else if t = 30 then fz else if t = 31 then fo else if t < 20 then adK (t - 10) else adV (t - 20)) = sa t := if_pos ht
    show va_Z (roC t) (roF t) "[I" (.ref (if t < 4 then sa t else if t = 4 then b else if t = 30 then fz else if t = 31 then fo else if t < 20 then adK (t - 10) else adV (t - 20))) _ s s.heap ∧ va_T .int (if t < 4 then sa t else if t = 4 then b else if t = 30 then fz else if t = 31 then fo else if t < 20 then adK (t - 10) else adV (t - 20)) _ _ _ s s.heap
    rw [e]; exact h
  · refine ⟨fun i hi => ?_, fun i hi => ?_, ?_, ?_⟩
    · obtain ⟨w1, w2, w3, w4⟩ := hS.1 i hi
      obtain ⟨l1, l2, -⟩ := jsLn_eq i hi
      have e1 : (if 10 + i < 4 then sa (10 + i) else if 10 + i = 4 then b else if 10 + i = 30 then fz else if 10 + i = 31 then fo else if 10 + i < 20 then adK (10 + i - 10) else adV (10 + i - 20)) = adK i := by
        rw [if_neg (by omega), if_neg (by omega), if_neg (by omega), if_neg (by omega), if_pos (by omega), show 10 + i - 10 = i by omega]
      have e2 : (if 20 + i < 4 then sa (20 + i) else if 20 + i = 4 then b else if 20 + i = 30 then fz else if 20 + i = 31 then fo else if 20 + i < 20 then adK (20 + i - 10) else adV (20 + i - 20)) = adV i := by
        rw [if_neg (by omega), if_neg (by omega), if_neg (by omega), if_neg (by omega), if_neg (by omega), show 20 + i - 20 = i by omega]
      rw [l1, l2] at w4
      show va_O "java/lang/String" (if 10 + i < 4 then sa (10 + i) else if 10 + i = 4 then b else if 10 + i = 30 then fz else if 10 + i = 31 then fo else if 10 + i < 20 then adK (10 + i - 10) else adV (10 + i - 20)) _ s s.heap ∧ va_OF "java/lang/String" "coder" "B" (.int 0) (if 10 + i < 4 then sa (10 + i) else if 10 + i = 4 then b else if 10 + i = 30 then fz else if 10 + i = 31 then fo else if 10 + i < 20 then adK (10 + i - 10) else adV (10 + i - 20)) _ s s.heap ∧ va_OF "java/lang/String" "value" "[B" (.ref (if 20 + i < 4 then sa (20 + i) else if 20 + i = 4 then b else if 20 + i = 30 then fz else if 20 + i = 31 then fo else if 20 + i < 20 then adK (20 + i - 10) else adV (20 + i - 20))) (if 10 + i < 4 then sa (10 + i) else if 10 + i = 4 then b else if 10 + i = 30 then fz else if 10 + i = 31 then fo else if 10 + i < 20 then adK (10 + i - 10) else adV (10 + i - 20)) _ s s.heap ∧ va_T .byte (if 20 + i < 4 then sa (20 + i) else if 20 + i = 4 then b else if 20 + i = 30 then fz else if 20 + i = 31 then fo else if 20 + i < 20 then adK (20 + i - 10) else adV (20 + i - 20)) _ _ _ s s.heap
      rw [e1, e2]
      exact ⟨w1, w2, w3, w4⟩
    · have e1 : (if 10 + i < 4 then sa (10 + i) else if 10 + i = 4 then b else if 10 + i = 30 then fz else if 10 + i = 31 then fo else if 10 + i < 20 then adK (10 + i - 10) else adV (10 + i - 20)) = adK i := by
        rw [if_neg (by omega), if_neg (by omega), if_neg (by omega), if_neg (by omega), if_pos (by omega), show 10 + i - 10 = i by omega]
      show vk_R RX3 (jsX i) (jsT i) (if 10 + i < 4 then sa (10 + i) else if 10 + i = 4 then b else if 10 + i = 30 then fz else if 10 + i = 31 then fo else if 10 + i < 20 then adK (10 + i - 10) else adV (10 + i - 20)) s
      rw [e1]
      exact vk_R.of (hts _ (wo_s1 i hi).1) (hSt i hi)
    · exact va_Zof (hts _ wo_j.1) (hts _ wo_j.2.1) (va_eqi (hg _ wo_j.2.2.1)) hA
    · exact hfz
