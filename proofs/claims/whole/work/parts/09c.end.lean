/-! THE LAW'S OWN JUDGEMENT -/
def kL (nm : String) : MK := (⟨R_law, nm, ""⟩, code, 4, ret)
def ZL (E : Ev) : ZT := fun below args s t => (∃ b, args = #[Value.ref b]) ∧ s.heap.size = eB E → lw_Z below args s t
theorem g_law {E : Ev} {nm : String} {ca sl : Nat} {lv : List (Option AV)} {M : Mem} {pc : Nat} (hd : decode code pc = .ok (.ireturn, 1)) (h1 : ca ≤ 600000) (h2 : sl ≤ 7302250) : G E room_1 (kL nm) (ZL E) ca sl pc lv [vI 1] M := by
  intro p l e s m args below meth c H locs ls C hw hy hS hl
  by_cases hc : (∃ b, args = #[Value.ref b]) ∧ s.heap.size = eB E
  · obtain ⟨⟨b, rfl⟩, hsz⟩ := hc
    have key : W p l e room_1 s m #[Value.ref b] below meth c H locs ca sl (lw_Z below #[Value.ref b] s) (F0 m pc ls [.int 1]) := by
      refine va_forget (fun q hq => ?_) ?_
      · have := hS.2.2 q hq
        rw [hsz]; exact this
      · exact W.widen (k := 600000) (n := 7302250) h1 h2 (lw_ret C.1 C.2.1 C.2.2.2.1 C.2.2.2.2.1 hd)
    intro T hT X
    obtain ⟨t, a, z⟩ := key T hT X
    exact ⟨t, a, fun _ => z⟩
  · intro T hT X
    exact ⟨_, Steps.refl _, fun z => absurd z hc⟩
def M00 : Mem := (fun _ _ => 0, fun _ _ => 0, fun _ _ => none, 0)
theorem start_of {p : Program} {e : Env} {s : State} {m : MethodId} {below : List Frame} {meth : Method} {c : Code} (l : Launch) {b L : Nat} {xs : Nat → Int32} (hL : L ≤ 3072) (C0 : lw_At p s m meth c b L xs)
    (hG : ∀ E : Ev, eL E ≤ 3072 → G E room_1 (kL meth.name) (ZL E) 0 0 0 [some (vS 4), none, none, none] [] M00) : W p l e room_1 s m #[Value.ref b] below meth c s.heap [] 0 0 (lw_Z below #[Value.ref b] s) (entryFrame m ([Value.ref b] : List Value).toArray 4) := by
  obtain ⟨E, e1, e2, e3, e4, hw⟩ := wst_of C0
  obtain ⟨hx, hb, hr, hml, hown, hts, hX, hbl, hlocks, hgv⟩ := C0
  have hl := lv_entry ([.ref b]) (n := 4) (Nat.le_of_ble_eq_true rfl)
  rw [lg_entry_eq]
  generalize (lg_sl ([.ref b]) ++ List.replicate (4 - (lg_sl ([.ref b])).length) Slot.unset).toArray = ls at hl ⊢
  have hl : lv_has ls 4 [(0, .ref b)] := hl
  have key := hG E (by omega) p l e s m #[Value.ref b] below meth c s.heap [] ls ⟨hx, hb, hml, hr, hlocks, hown, TB_hts hts, rfl⟩ hw ⟨by rw [e1]; rfl, fun a _ h => absurd h (Nat.not_lt_zero _)⟩ va_S.rf ⟨rfl, by
    show lv_has ls 4 [(0, .ref (eR E 4))]
    rw [e4]; exact hl⟩
  intro T hT X
  obtain ⟨t, a, z⟩ := key T hT X
  exact ⟨t, a, z ⟨⟨b, rfl⟩, e1.symm⟩⟩
