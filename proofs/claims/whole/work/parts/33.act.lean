/-! MOVES, ALL OF THEM -/
theorem hasRoom_le {s : State} {pl : Platform} {r r' : Room} (hf : r.frames ≤ r'.frames) (hl : r.locals ≤ r'.locals) (hc : r.cells ≤ r'.cells) (hs : r.slots ≤ r'.slots) (h : s.hasRoom pl r' = true) : s.hasRoom pl r = true := by
  simp only [State.hasRoom, Bool.and_eq_true, decide_eq_true_eq] at h ⊢
  obtain ⟨⟨⟨⟨h1, h2⟩, h3⟩, h4⟩, h5⟩ := h
  exact ⟨⟨⟨⟨by omega, by omega, by omega, by omega, by omega, h2.2.2.2.2⟩, by omega⟩, by omega⟩, h5⟩
theorem Mth.lvl {E : Ev} {n n' mc ms : Nat} {k : MK} {as : List AV} {M : Mem} {Q : QT} (h : Mth E n mc ms k as M Q) (hn : n ≤ n') : Mth E n' mc ms k as M Q := by
  intro l p e h1 h2 h3 s m args below h4 h5 h6 h7
  obtain ⟨a1, a2, a3, a4, a5, a6, a7, a8⟩ := (Spec.appliesLoose_iff h4).mp h5
  exact h l p e h1 h2 h3 s m args below h4 ((Spec.appliesLoose_iff h4).mpr ⟨a1, a2, a3, a4, a5, a6, hasRoom_le (r := rm n mc ms) (r' := rm n' mc ms) hn (Nat.mul_le_mul_left 44 hn) (Nat.le_refl _) (Nat.le_refl _) a7, a8⟩) h6 h7
theorem Cal.lvl {E : Ev} {n n' : Nat} {f mv x v : Int32} {dp : Nat} {M Mf : Mem} (h : Cal E n f mv x dp M v Mf) (hn : n ≤ n') : Cal E n' f mv x dp M v Mf := fun Q q => (h Q q).lvl hn
def Mvs (M : Mem) (m : Int32) (kd : Nat) (a : Int32) : Prop := Wi M ∧ mI M (10, 0, 0) 2 = m ∧ mI M (10, 0, 0) 3 = nI kd ∧ mI M (10, 0, 0) 4 = a
theorem Mvs.no {M : Mem} {m : Int32} {kd : Nat} {a b : Int32} (h : Mvs M m kd a) : Mvs (noM M b) m kd a := ⟨noM_W h.1, (noM_f (by decide)).trans h.2.1, (noM_f (by decide)).trans h.2.2.1, (noM_f (by decide)).trans h.2.2.2⟩
def noL (M : Mem) : List Int32 → Mem
  | [] => M
  | b :: r => noL (noM M b) r
theorem noL_app (M : Mem) : ∀ (a b : List Int32), noL M (a ++ b) = noL (noL M a) b := by
  intro a
  induction a generalizing M with
  | nil => intro b; rfl
  | cons x r ih => intro b; exact ih (noM M x) b
theorem Mvs.nol {m : Int32} {kd : Nat} {a : Int32} : ∀ {L : List Int32} {M : Mem}, Mvs M m kd a → Mvs (noL M L) m kd a := by
  intro L
  induction L with
  | nil => intro M h; exact h
  | cons b r ih => intro M h; exact ih h.no
def comV (kd : Nat) (m a x : Int32) : Int32 := [x + m, x + m + a, x + m, x + 1 + m + a, x + m, x + m - m, (x + 1 + m + a) * 2].getD kd 0
def comL (kd : Nat) : List Int32 := [[10], [20, 10], [10], [40, 20, 10], [10], [51, 10], [70, 40, 20, 10]].getD kd []
def sitV (kd : Nat) (m a x : Int32) : Int32 := [comV kd m a x * 2, comV kd m a x * 2, comV kd m a x * 2 * 3, comV kd m a x * 2, comV kd m a x * 2 * 3, comV kd m a x * 2, comV kd m a (x - a) * 2].getD kd 0
def sitL (kd : Nat) : List Int32 := [[11], [11], [30, 11], [11], [30, 11], [11], [71, 11]].getD kd [] ++ comL kd
def askV (kd : Nat) (m a x : Int32) : Int32 := [sitV kd m a x ^^^ comV kd m a (x - a), sitV kd m a x ^^^ comV kd m a (x - a), sitV kd m a x ^^^ comV kd m a (x - a), sitV kd m a x ^^^ comV kd m a (x - a), (sitV kd m a x ^^^ comV kd m a (x - a)) ^^^ 5, -(sitV kd m a x ^^^ comV kd m a (x - a)), sitV kd m a x ^^^ comV kd m a (x - a)].getD kd 0
def askL (kd : Nat) : List Int32 := [[12], [12], [12], [12], [60, 12], [50, 12], [12]].getD kd [] ++ (sitL kd ++ comL kd)
section CC
variable {E : Ev} {M : Mem} {m : Int32} {kd : Nat} {a x : Int32} {dp : Nat}
theorem cc0 {f : Int32} (hb : bodyF f 0 = 10) (H : Mvs M m kd a) (hd : dp ≤ 30) : Cal E 1 f 0 x dp M (x + m) (noM M 10) :=
  cal_of H.1 hd hb (fun Q h => pf_10 H.no.1 (by rw [H.no.2.1]; exact h))
theorem cc1 (H : Mvs M m kd a) (hd : dp ≤ 29) : Cal E 3 1 0 x dp M (x + m + a) (noL M [20, 10]) :=
  cal_of (n := 2) (b := 20) H.1 (by omega) (by decide +kernel) (fun Q h => pf_20 (n := 1) H.no.1 (by rw [show ka 1 = 0 by decide +kernel]; exact cc0 (by decide +kernel) H.no (by omega)) H.no.no.1 (by rw [H.no.no.2.2.2]; simp only [noL] at h; exact h))
theorem cc3 (H : Mvs M m kd a) (hd : dp ≤ 28) : Cal E 5 3 0 x dp M (x + 1 + m + a) (noL M [40, 20, 10]) :=
  cal_of (n := 4) (b := 40) H.1 (by omega) (by decide +kernel) (fun Q h => pf_40 (n := 3) H.no.1 (by rw [show ka 3 = 1 by decide +kernel]; exact cc1 H.no (by omega)) (by simp only [noL] at h ⊢; exact h))
theorem cc5 (H : Mvs M m kd a) (hd : dp ≤ 29) : Cal E 3 5 0 x dp M (x + m - m) (noL M [51, 10]) :=
  cal_of (n := 2) (b := 51) H.1 (by omega) (by decide +kernel) (fun Q h => pf_51 (n := 1) H.no.1 (by rw [show ka 5 = 0 by decide +kernel]; exact cc0 (by decide +kernel) H.no (by omega)) H.no.no.1 (by rw [H.no.no.2.1]; simp only [noL] at h; exact h))
theorem cc6 (H : Mvs M m kd a) (hd : dp ≤ 27) : Cal E 7 6 0 x dp M ((x + 1 + m + a) * 2) (noL M [70, 40, 20, 10]) :=
  cal_of (n := 6) (b := 70) H.1 (by omega) (by decide +kernel) (fun Q h => pf_70 (n := 5) (v := x + 1 + m + a) (Mf := noL (noM M 70) [40, 20, 10]) H.no.1 (by rw [show ka 6 = 3 by decide +kernel]; exact cc3 H.no (by omega)) (by simp only [noL] at h ⊢; exact h))
theorem cal_com (H : Mvs M m kd a) {f : Nat} (hf : f < 7) (hd : dp ≤ 27) : Cal E 7 (nI f) 0 x dp M (comV f m a x) (noL M (comL f)) := by
  rcases (by omega : f = 0 ∨ f = 1 ∨ f = 2 ∨ f = 3 ∨ f = 4 ∨ f = 5 ∨ f = 6) with rfl | rfl | rfl | rfl | rfl | rfl | rfl
  · exact (cc0 (by decide +kernel) H (by omega)).lvl (by decide)
  · exact (cc1 H (by omega)).lvl (by decide)
  · exact (cc0 (by decide +kernel) H (by omega)).lvl (by decide)
  · exact (cc3 H (by omega)).lvl (by decide)
  · exact (cc0 (by decide +kernel) H (by omega)).lvl (by decide)
  · exact (cc5 H (by omega)).lvl (by decide)
  · exact cc6 H hd
theorem cs0 {f : Int32} (hk : kd < 7) (hb : bodyF f 1 = 11) (H : Mvs M m kd a) (hd : dp ≤ 26) : Cal E 9 f 1 x dp M (comV kd m a x * 2) (noL M (11 :: comL kd)) :=
  cal_of (n := 8) H.1 (by omega) hb (fun Q h => pf_11 (n := 7) H.no.1 (by rw [H.no.2.2.1]; exact cal_com H.no hk (by omega)) (by simp only [noL] at h ⊢; exact h))
theorem cs2 {f : Int32} (hk : kd < 7) (hb : bodyF f 1 = 30) (H : Mvs M m kd a) (hd : dp ≤ 25) : Cal E 11 f 1 x dp M (comV kd m a x * 2 * 3) (noL M (30 :: 11 :: comL kd)) :=
  cal_of (n := 10) H.1 (by omega) hb (fun Q h => pf_30 (n := 9) H.no.1 (by rw [show ka 2 = 0 by decide +kernel]; exact cs0 hk (by decide +kernel) H.no (by omega)) (by simp only [noL] at h ⊢; exact h))
theorem cs6 (hk : kd < 7) (H : Mvs M m kd a) (hd : dp ≤ 25) : Cal E 11 6 1 x dp M (comV kd m a (x - a) * 2) (noL M (71 :: 11 :: comL kd)) :=
  cal_of (n := 10) (b := 71) H.1 (by omega) (by decide +kernel) (fun Q h => pf_71 (n := 9) H.no.1 (by rw [show ka 6 = 3 by decide +kernel, H.no.2.2.2]; exact cs0 hk (by decide +kernel) H.no (by omega)) (by simp only [noL] at h ⊢; exact h))
theorem cal_sit (hk : kd < 7) (H : Mvs M m kd a) (hd : dp ≤ 25) : Cal E 11 (nI kd) 1 x dp M (sitV kd m a x) (noL M (sitL kd)) := by
  rcases (by omega : kd = 0 ∨ kd = 1 ∨ kd = 2 ∨ kd = 3 ∨ kd = 4 ∨ kd = 5 ∨ kd = 6) with rfl | rfl | rfl | rfl | rfl | rfl | rfl
  · exact (cs0 hk (by decide +kernel) H (by omega)).lvl (by decide)
  · exact (cs0 hk (by decide +kernel) H (by omega)).lvl (by decide)
  · exact cs2 hk (by decide +kernel) H hd
  · exact (cs0 hk (by decide +kernel) H (by omega)).lvl (by decide)
  · exact cs2 hk (by decide +kernel) H hd
  · exact (cs0 hk (by decide +kernel) H (by omega)).lvl (by decide)
  · exact cs6 hk H hd
theorem ca0 {f : Int32} (hk : kd < 7) (hb : bodyF f 2 = 12) (H : Mvs M m kd a) (hd : dp ≤ 24) : Cal E 13 f 2 x dp M (sitV kd m a x ^^^ comV kd m a (x - a)) (noL M (12 :: (sitL kd ++ comL kd))) :=
  cal_of (n := 12) H.1 (by omega) hb (fun Q h => pf_12 (n := 11) H.no.1 (by rw [H.no.2.2.1]; exact cal_sit hk H.no (by omega)) H.no.nol.1 (by rw [H.no.nol.2.2.1, H.no.nol.2.2.2]; exact (cal_com H.no.nol hk (by omega)).lvl (by decide)) (by rw [← noL_app]; simp only [noL] at h; exact h))
theorem ca4 (hk : kd < 7) (H : Mvs M m kd a) (hd : dp ≤ 23) : Cal E 15 4 2 x dp M ((sitV kd m a x ^^^ comV kd m a (x - a)) ^^^ 5) (noL M (60 :: 12 :: (sitL kd ++ comL kd))) :=
  cal_of (n := 14) (b := 60) H.1 (by omega) (by decide +kernel) (fun Q h => pf_60 (n := 13) H.no.1 (by rw [show ka 4 = 2 by decide +kernel]; exact ca0 hk (by decide +kernel) H.no (by omega)) (by simp only [noL] at h ⊢; exact h))
theorem ca5 (hk : kd < 7) (H : Mvs M m kd a) (hd : dp ≤ 23) : Cal E 15 5 2 x dp M (-(sitV kd m a x ^^^ comV kd m a (x - a))) (noL M (50 :: 12 :: (sitL kd ++ comL kd))) :=
  cal_of (n := 14) (b := 50) H.1 (by omega) (by decide +kernel) (fun Q h => pf_50 (n := 13) H.no.1 (by rw [show ka 5 = 0 by decide +kernel]; exact ca0 hk (by decide +kernel) H.no (by omega)) (by simp only [noL] at h ⊢; exact h))
theorem cal_ask (hk : kd < 7) (H : Mvs M m kd a) (hd : dp ≤ 23) : Cal E 15 (nI kd) 2 x dp M (askV kd m a x) (noL M (askL kd)) := by
  rcases (by omega : kd = 0 ∨ kd = 1 ∨ kd = 2 ∨ kd = 3 ∨ kd = 4 ∨ kd = 5 ∨ kd = 6) with rfl | rfl | rfl | rfl | rfl | rfl | rfl
  · exact (ca0 hk (by decide +kernel) H (by omega)).lvl (by decide)
  · exact (ca0 hk (by decide +kernel) H (by omega)).lvl (by decide)
  · exact (ca0 hk (by decide +kernel) H (by omega)).lvl (by decide)
  · exact (ca0 hk (by decide +kernel) H (by omega)).lvl (by decide)
  · exact ca4 hk H hd
  · exact ca5 hk H hd
  · exact (ca0 hk (by decide +kernel) H (by omega)).lvl (by decide)
def actV (kd mv : Nat) (m a x : Int32) : Int32 := if mv = 0 then comV kd m a x else if mv = 1 then sitV kd m a x else askV kd m a x
def actL (kd mv : Nat) : List Int32 := if mv = 0 then comL kd else if mv = 1 then sitL kd else askL kd
theorem cal_act (hk : kd < 7) {mv : Nat} (hm : mv < 3) (H : Mvs M m kd a) (hd : dp ≤ 23) : Cal E 15 (nI kd) (nI mv) x dp M (actV kd mv m a x) (noL M (actL kd mv)) := by
  rcases (by omega : mv = 0 ∨ mv = 1 ∨ mv = 2) with rfl | rfl | rfl
  · exact (cal_com H hk (by omega)).lvl (by decide)
  · exact (cal_sit hk H (by omega)).lvl (by decide)
  · exact cal_ask hk H hd
end CC
def ruM (M : Mem) (m kd a : Int32) : Mem := sI (sI (sI M (10, 0, 0) 2 m) (10, 0, 0) 3 kd) (10, 0, 0) 4 a
theorem ru_Mvs {M : Mem} {m a : Int32} {kd : Nat} (hW : Wi M) : Mvs (ruM M m (nI kd) a) m kd a := ⟨hW, by simp [ruM, mI, sI], by simp [ruM, mI, sI], by simp [ruM, mI, sI]⟩
set_option maxHeartbeats 4000000 in
set_option maxRecDepth 100000 in
theorem wp_X0_run {E : Ev} {M : Mem} {Q : QT} (hW : Wi M) {k i kd mv : Nat} (hk : k < 4) (hi : i < 11) (hkd : mI M (2, k, i) 0 = nI kd) (hkd7 : kd < 7) (hmv : mv < 3) {m x : Int32} (h : Q (some (vI (actV kd mv m (mI M (2, k, i) 1) x))) (noL (ruM M m (nI kd) (mI M (2, k, i) 1)) (actL kd mv))) : Mth E 16 0 0 kX0_run [vR (10, 0, 0), vI m, vR (2, k, i), vI (nI mv), vI x] M Q := by
  refine mth_of (by decide +kernel) [some (vR (10, 0, 0)), some (vI m), some (vR (2, k, i)), some (vI (nI mv)), some (vI x)] (Nat.le_of_ble_eq_true rfl) rfl ?_
  refine g_aloadR_n dX0_run_0 rfl rfl ?_
  refine g_iload_n dX0_run_1 rfl rfl ?_
  refine n_putI dX0_run_2 fX0_19 rfl hW vld_x10 rfl ?_
  refine g_aloadR_n dX0_run_5 rfl rfl ?_
  refine g_aloadR_n dX0_run_6 rfl rfl ?_
  refine n_getI dX0_run_7 fX0_22 rfl hW (vld_pe hk hi) (Or.inl rfl) ?_
  refine n_putI dX0_run_10 fX0_27 rfl hW vld_x10 rfl ?_
  refine g_aloadR_n dX0_run_13 rfl rfl ?_
  refine g_aloadR_n dX0_run_14 rfl rfl ?_
  refine n_getI dX0_run_15 fX0_28 rfl hW (vld_pe hk hi) (Or.inl rfl) ?_
  refine n_putI dX0_run_18 fX0_31 rfl hW vld_x10 rfl ?_
  refine g_aloadR_n dX0_run_21 rfl rfl ?_
  refine g_aloadR_n dX0_run_22 rfl rfl ?_
  refine n_getI dX0_run_23 fX0_27 rfl hW vld_x10 (Or.inl rfl) ?_
  refine g_iload_n dX0_run_26 rfl rfl ?_
  refine g_iload dX0_run_27 rfl ?_
  refine g_iconst dX0_run_29 (v := 0) (by decide) ?_
  refine n_v4i (n' := 15) dX0_run_30 mX0_call lX0_32 rfl hW vld_x10 rfl rfl ⟨Nat.le_of_ble_eq_true rfl, Nat.le_of_ble_eq_true rfl⟩ ⟨Nat.zero_le _, Nat.zero_le _⟩ (Nat.le_of_ble_eq_true rfl) ?_
  have f1 : mI (sI M (10, 0, 0) 2 m) (2, k, i) = mI M (2, k, i) := (sI_hk _ (by intro q; cases q)).1
  have f2 : ∀ y, mI (sI (sI M (10, 0, 0) 2 m) (10, 0, 0) 3 y) (2, k, i) = mI M (2, k, i) := fun y => ((sI_hk _ (by intro q; cases q)).1).trans f1
  have f3 : ∀ y z, mI (sI (sI (sI M (10, 0, 0) 2 m) (10, 0, 0) 3 y) (10, 0, 0) 4 z) (10, 0, 0) 3 = y := fun y z => by simp [mI, sI]
  rw [f3, f1, f2, hkd]
  refine cal_act (M := ruM M m (nI kd) (mI M (2, k, i) 1)) hkd7 hmv (kd := kd) (mv := mv) (dp := 0) (m := m) (a := mI M (2, k, i) 1) (ru_Mvs hW) (by decide) _ ?_
  refine ⟨_, rfl, ?_⟩
  refine g_iret dX0_run_33 rfl ?_
  exact h
