/-! A METHOD'S CONTRACT OUT OF THE WALK OF ITS BODY -/
theorem lv_args_mono {E : Ev} : ∀ (as : List AV) (j i : Nat) (w : Value), (i, w) ∈ en E j (avs as) → (i, w) ∈ lv_args j (as.map (cv E)) := by
  intro as
  induction as with
  | nil => intro j i w h; cases h
  | cons v r ih =>
    intro j i w h
    rcases v with x | x | x | x | x
    · simp only [avs, en, List.mem_cons] at h
      rcases h with h | h
      · rw [h]; exact List.mem_cons_self
      · exact List.mem_cons_of_mem _ (ih (j + 1) i w h)
    · simp only [avs, en, List.mem_cons] at h
      rcases h with h | h
      · rw [h]; exact List.mem_cons_self
      · exact List.mem_cons_of_mem _ (ih (j + 2) i w h)
    · simp only [avs, en, List.mem_cons] at h
      rcases h with h | h
      · rw [h]; exact List.mem_cons_self
      · exact List.mem_cons_of_mem _ (ih (j + 1) i w h)
    · simp only [avs, en, List.mem_cons] at h
      rcases h with h | h
      · rw [h]; exact List.mem_cons_self
      · exact List.mem_cons_of_mem _ (ih (j + 1) i w h)
    · simp only [avs, en, List.mem_cons] at h
      rcases h with h | h
      · rw [h]; exact List.mem_cons_self
      · exact List.mem_cons_of_mem _ (ih (j + 1) i w h)
theorem en_app {E : Ev} : ∀ (a b : List (Option AV)) (j : Nat), en E j (a ++ b) = en E j a ++ en E (j + a.length) b := by
  intro a
  induction a with
  | nil => intro b j; rfl
  | cons v r ih =>
    intro b j
    cases v with
    | none => simp only [List.cons_append, en, ih, List.length_cons]; rw [Nat.add_assoc, Nat.add_comm 1]
    | some v => simp only [List.cons_append, en, ih, List.length_cons]; rw [Nat.add_assoc, Nat.add_comm 1]
theorem en_rep {E : Ev} : ∀ (n j : Nat), en E j (List.replicate n none) = [] := by
  intro n
  induction n with
  | zero => intro j; rfl
  | succ n ih => intro j; simp only [List.replicate_succ, en, ih]
theorem sl_cons (v : Value) (r : List Value) : lg_sl (v :: r) = (if v.category = 2 then [.val v, .second] else [.val v]) ++ lg_sl r := by rw [lg_sl, List.flatMap_cons]; rfl
theorem sl_len {E : Ev} : ∀ (as : List AV), (lg_sl (as.map (cv E))).length = (avs as).length := by
  intro as
  induction as with
  | nil => rfl
  | cons v r ih =>
    rw [List.map_cons, sl_cons, List.length_append, ih]
    rcases v with x | x | x | x | x
    · rw [if_neg (by rw [cv_vcat]; exact (by decide : ¬ (1 : Nat) = 2))]; simp [avs]; omega
    · rw [if_pos (by rw [cv_vcat]; rfl)]; simp [avs]; omega
    · rw [if_neg (by rw [cv_vcat]; exact (by decide : ¬ (1 : Nat) = 2))]; simp [avs]; omega
    · rw [if_neg (by rw [cv_vcat]; exact (by decide : ¬ (1 : Nat) = 2))]; simp [avs]; omega
    · rw [if_neg (by rw [cv_vcat]; exact (by decide : ¬ (1 : Nat) = 2))]; simp [avs]; omega
theorem mth_of {E : Ev} {n mc ms : Nat} {k : MK} {as : List AV} {M : Mem} {Q : QT} (hp : plainName k.1.cls = true) (lv : List (Option AV)) (hlen : (avs as).length ≤ k.2.2.1) (hlv : avs as ++ List.replicate (k.2.2.1 - (avs as).length) none = lv)
    (hG : G E (rm n mc ms) k (ZQ E Q mc ms) 0 0 0 lv [] M) : Mth E n mc ms k as M Q := by
  intro l
  refine Met.ofW (cc := k.2.1) (maxL := k.2.2.1) (ret := k.2.2.2) hp rfl ?_
  intro p e s m args below meth c s₁ B hml hv
  obtain ⟨rfl, hw, hy⟩ := hv
  have hts0 := atoms_spec (ws := ws_ k) B.pre
  have hlen' : (lg_sl (as.map (cv E))).length ≤ k.2.2.1 := by rw [sl_len]; exact hlen
  have hl := lv_entry (as.map (cv E)) hlen'
  rw [lg_entry_eq]
  generalize (lg_sl (as.map (cv E)) ++ List.replicate (k.2.2.1 - (lg_sl (as.map (cv E))).length) Slot.unset).toArray = ls at hl ⊢
  refine hG p l e s m _ below meth c s.heap [] ls ⟨B.exec, B.bytes, hml, B.returns, B.notSynchronized, findClass_of_methodNamed B.named, fun w hw => hts0 w (List.mem_cons_of_mem _ hw), (name_of_methodNamed B.named B.method).1⟩ hw hy va_S.rf ?_
  subst hlv
  refine ⟨by simp; omega, hl.1, hl.2.1, ?_⟩
  rintro ⟨i, w⟩ hq
  rw [en_app, en_rep, List.append_nil] at hq
  exact hl.2.2 _ (lv_args_mono as 0 i w hq)
theorem Mth.mono {E : Ev} {n mc ms : Nat} {k : MK} {as : List AV} {M : Mem} {Q Q' : QT} (h : Mth E n mc ms k as M Q) (hQ : ∀ r M', Q r M' → Q' r M') : Mth E n mc ms k as M Q' := by
  intro l p e h1 h2 h3 s m args below h4 h5 h6 h7
  obtain ⟨t, o, a1, a2, a3, ⟨⟨r, M', b1, b2, b3⟩, b4⟩, a5⟩ := h l p e h1 h2 h3 s m args below h4 h5 h6 h7
  exact ⟨t, o, a1, a2, a3, ⟨⟨r, M', b1, hQ _ _ b2, b3⟩, b4⟩, a5⟩
