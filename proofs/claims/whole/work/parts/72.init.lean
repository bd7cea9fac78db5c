/-! CONSTRUCTORS -/
theorem iiX6 : Cond.initialized RX6 ∈ TB := TB_of 64 (by decide +kernel) (by decide +kernel)
theorem iiX4 : Cond.initialized RX4 ∈ TB := TB_of 65 (by decide +kernel) (by decide +kernel)
theorem iiX2 : Cond.initialized RX2 ∈ TB := TB_of 66 (by decide +kernel) (by decide +kernel)
theorem iiX1 : Cond.initialized RX1 ∈ TB := TB_of 67 (by decide +kernel) (by decide +kernel)
theorem iiX5 : Cond.initialized RX5 ∈ TB := TB_of 68 (by decide +kernel) (by decide +kernel)
theorem iiX3 : Cond.initialized RX3 ∈ TB := TB_of 69 (by decide +kernel) (by decide +kernel)
theorem iiX0 : Cond.initialized RX0 ∈ TB := TB_of 70 (by decide +kernel) (by decide +kernel)
theorem iiX7 : Cond.initialized RX7 ∈ TB := TB_of 71 (by decide +kernel) (by decide +kernel)
theorem inX6 : Cond.instantiable RX6 11 ∈ TB := TB_of 81 (by decide +kernel) (by decide +kernel)
theorem olX6 : Cond.methodLink RX6 1 Lib.objectInit ∈ TB := TB_of 85 (by decide +kernel) (by decide +kernel)
theorem oim : Cond.instanceMethod Lib.objectInit ∈ TB := TB_of 86 (by decide +kernel) (by decide +kernel)
theorem oco : Cond.code Lib.objectInit ⟨#[0xb1]⟩ 1 none ∈ TB := TB_of 87 (by decide +kernel) rfl
theorem clX6_7 : Cond.classLink RX6 7 RX4 ∈ TB := TB_of 88 (by decide +kernel) (by decide +kernel)
theorem inX4 : Cond.instantiable RX4 9 ∈ TB := TB_of 89 (by decide +kernel) (by decide +kernel)
theorem olX4 : Cond.methodLink RX4 3 Lib.objectInit ∈ TB := TB_of 93 (by decide +kernel) (by decide +kernel)
theorem clX4_9 : Cond.classLink RX4 9 RX2 ∈ TB := TB_of 94 (by decide +kernel) (by decide +kernel)
theorem inX2 : Cond.instantiable RX2 10 ∈ TB := TB_of 96 (by decide +kernel) (by decide +kernel)
theorem olX2 : Cond.methodLink RX2 3 Lib.objectInit ∈ TB := TB_of 100 (by decide +kernel) (by decide +kernel)
theorem clX6_22 : Cond.classLink RX6 22 RX1 ∈ TB := TB_of 180 (by decide +kernel) (by decide +kernel)
theorem inX1 : Cond.instantiable RX1 4 ∈ TB := TB_of 181 (by decide +kernel) (by decide +kernel)
theorem olX1 : Cond.methodLink RX1 3 Lib.objectInit ∈ TB := TB_of 185 (by decide +kernel) (by decide +kernel)
theorem clX6_29 : Cond.classLink RX6 29 RX5 ∈ TB := TB_of 203 (by decide +kernel) (by decide +kernel)
theorem inX5 : Cond.instantiable RX5 4 ∈ TB := TB_of 205 (by decide +kernel) (by decide +kernel)
theorem olX5 : Cond.methodLink RX5 3 Lib.objectInit ∈ TB := TB_of 209 (by decide +kernel) (by decide +kernel)
theorem acL : Cond.arrayClass .long ∈ TB := TB_of 228 (by decide +kernel) (by decide +kernel)
theorem clX6_40 : Cond.classLink RX6 40 RX3 ∈ TB := TB_of 229 (by decide +kernel) (by decide +kernel)
theorem inX3 : Cond.instantiable RX3 6 ∈ TB := TB_of 230 (by decide +kernel) (by decide +kernel)
theorem olX3 : Cond.methodLink RX3 3 Lib.objectInit ∈ TB := TB_of 234 (by decide +kernel) (by decide +kernel)
theorem clX3_9 : Cond.classLink RX3 9 RX4 ∈ TB := TB_of 235 (by decide +kernel) (by decide +kernel)
theorem acI : Cond.arrayClass .int ∈ TB := TB_of 258 (by decide +kernel) (by decide +kernel)
theorem clX6_47 : Cond.classLink RX6 47 RX0 ∈ TB := TB_of 259 (by decide +kernel) (by decide +kernel)
theorem inX0 : Cond.instantiable RX0 5 ∈ TB := TB_of 260 (by decide +kernel) (by decide +kernel)
theorem olX0 : Cond.methodLink RX0 3 Lib.objectInit ∈ TB := TB_of 264 (by decide +kernel) (by decide +kernel)
theorem inX7 : Cond.instantiable RX7 50 ∈ TB := TB_of 858 (by decide +kernel) (by decide +kernel)
theorem olX7 : Cond.methodLink RX7 1 Lib.objectInit ∈ TB := TB_of 862 (by decide +kernel) (by decide +kernel)
theorem hcls {c : Nat} {r : String} (h : (match classes[c]? with | some q => decide (q.1 = r) | none => true) = true) : ∀ q : vw_C, classes[c]? = some q → q.1 = r := fun q hq => by
  rw [hq] at h; simpa using h
section RI0
variable {E : Ev} {R : Room} {k : MK} {Z : ZT} {ca sl pc : Nat} {lv : List (Option AV)} {st : List AV} {M : Mem}
theorem g_ini0 {kk : MK} {n' idx mc ms : Nat} {a : Id} (hd : decode k.2.1 pc = .ok (.invokespecial idx, 3)) (mf : MI kk 0) (hret : kk.2.2.2 = none) (hl0 : Cond.methodLink k.1.cls idx kk.1 ∈ TB)
    (hR : n' + 1 ≤ R.frames ∧ 8 + (kk.2.2.1 + 11) + 44 * n' ≤ R.locals) (hf : ca + mc ≤ R.cells ∧ sl + ms ≤ R.slots) (hW : (st.map vcat).sum ≤ 8)
    (hM : ∀ Q : QT, (∀ r M', Q r M' ↔ G E R k Z (ca + mc) (sl + ms) (pc + 3) lv (psh r st) M') → Mth E n' mc ms kk [vR a] M Q) : G E R k Z ca sl pc lv (vR a :: st) M :=
  g_invI (as := []) hd mf hret hl0 rfl hR hf hW (hM _ (fun _ _ => Iff.rfl))
theorem g_iniN {kk : MK} {n' idx mc ms : Nat} {a : Id} {host : String} (hd : decode k.2.1 pc = .ok (.invokespecial idx, 3)) (mf : MI kk 0) (hret : kk.2.2.2 = none) (hl0 : (k.1.cls, idx, kk.1, host) ∈ NBm)
    (hR : n' + 1 ≤ R.frames ∧ 8 + (kk.2.2.1 + 11) + 44 * n' ≤ R.locals) (hf : ca + mc ≤ R.cells ∧ sl + ms ≤ R.slots) (hW : (st.map vcat).sum ≤ 8)
    (hM : ∀ Q : QT, (∀ r M', Q r M' ↔ G E R k Z (ca + mc) (sl + ms) (pc + 3) lv (psh r st) M') → Mth E n' mc ms kk [vR a] M Q) : G E R k Z ca sl pc lv (vR a :: st) M :=
  g_invIN (as := []) hd mf hret hl0 rfl hR hf hW (hM _ (fun _ _ => Iff.rfl))
end RI0
def mP2 (M : Mem) (a : Id) : Mem := sI M a 4 (-1)
def mS5 (M : Mem) (s : Nat) : Mem := sR (nwM (sI (sI M (5, s, 0) 0 (-1)) (5, s, 0) 1 (-1)) (6, s, 0)) (5, s, 0) 3 (some (6, s, 0))
def mS0 (M : Mem) : Mem := sR (nwM M (11, 0, 0)) (10, 0, 0) 1 (some (11, 0, 0))
def mPs (M : Mem) (k : Nat) : Nat → Mem
  | 0 => M
  | j + 1 => sR (mP2 (nwM (mPs M k j) (2, k, j)) (2, k, j)) (3, k, 0) j (some (2, k, j))
def mS4a (M : Mem) (k : Nat) : Mem := sI (sI (sI (sI (sR (mP2 (nwM (sR (nwM M (3, k, 0)) (1, k, 0) 0 (some (3, k, 0))) (2, k, 10)) (2, k, 10)) (1, k, 0) 1 (some (2, k, 10))) (1, k, 0) 3 8) (1, k, 0) 5 8) (1, k, 0) 6 3) (1, k, 0) 8 1
def mS4 (M : Mem) (k : Nat) : Mem := mPs (mS4a M k) k 10
def mS3 (M : Mem) : Mem := sR (nwM (sI (sR (mS4 (nwM M (1, 3, 0)) 3) (8, 0, 0) 0 (some (1, 3, 0))) (8, 0, 0) 1 (-1)) (9, 0, 0)) (8, 0, 0) 2 (some (9, 0, 0))
def mSh (M : Mem) : Nat → Mem
  | 0 => M
  | j + 1 => sR (mS5 (nwM (mSh M j) (5, j, 0)) j) (7, 0, 0) j (some (5, j, 0))
theorem mPs_n (M : Mem) (k : Nat) : ∀ j, mN (mPs M k j) = mN M + j
  | 0 => rfl
  | j + 1 => by show mN (mPs M k j) + 1 = _; rw [mPs_n M k j]; rfl
theorem mPs_r (M : Mem) (k : Nat) : ∀ j, mR (mPs M k j) (1, k, 0) = mR M (1, k, 0)
  | 0 => rfl
  | j + 1 => by
    rw [← mPs_r M k j]
    funext i
    simp [mPs, mP2, mR, sR, sI, nwM]
theorem mS4_n (M : Mem) (k : Nat) : mN (mS4 M k) = mN M + 12 := by unfold mS4; rw [mPs_n]; rfl
theorem mSh_n (M : Mem) : ∀ j, mN (mSh M j) = mN M + 2 * j
  | 0 => rfl
  | j + 1 => by
    show mN (mSh M j) + 1 + 1 = _
    rw [mSh_n M j]; omega
theorem mSh_r (M : Mem) : ∀ j, mR (mSh M j) (0, 0, 0) = mR M (0, 0, 0)
  | 0 => rfl
  | j + 1 => by
    rw [← mSh_r M j]
    funext i
    simp [mSh, mS5, mR, sR, sI, nwM]
theorem mPs_r0 (M : Mem) (k : Nat) : ∀ j, mR (mPs M k j) (0, 0, 0) = mR M (0, 0, 0)
  | 0 => rfl
  | j + 1 => by
    rw [← mPs_r0 M k j]
    funext i
    simp [mPs, mP2, mR, sR, sI, nwM]
theorem mS4_r0 (M : Mem) (k : Nat) : mR (mS4 M k) (0, 0, 0) = mR M (0, 0, 0) := by
  unfold mS4
  rw [mPs_r0]
  funext i
  simp [mS4a, mP2, mR, sR, sI, nwM]
theorem mS3_r0 (M : Mem) : mR (mS3 M) (0, 0, 0) = mR M (0, 0, 0) := by
  have h := mS4_r0 (nwM M (1, 3, 0)) 3
  funext i
  have h := congrFun h i
  simp [mS3, mR, sR, sI, nwM] at h ⊢
  exact h
set_option maxHeartbeats 4000000 in
set_option maxRecDepth 100000 in
theorem wp_X2_init {E : Ev} {M : Mem} {Q : QT} {a : Id} (hs : shp a = (0, 2)) (ha : vld a = true) (hm : off a < mN M) (h : Q none (mP2 M a)) : Mth E 1 0 0 kX2_init [vR a] M Q := by
  refine mth_of (by decide +kernel) [some (vR a)] (Nat.le_of_ble_eq_true rfl) rfl ?_
  refine g_aloadR_n dX2_init_0 rfl rfl ?_
  refine g_oinit dX2_init_1 olX2 oim oco (Nat.le_of_ble_eq_true rfl) (Nat.le_of_ble_eq_true rfl) ?_
  refine g_aloadR_n dX2_init_4 rfl rfl ?_
  refine g_iconst dX2_init_5 (v := (-1)) (by decide) ?_
  refine g_putI dX2_init_6 fX2_9 hs ha hm rfl ?_
  refine g_vret dX2_init_9 rfl ?_
  exact h
set_option maxHeartbeats 4000000 in
set_option maxRecDepth 100000 in
theorem wp_X1_init {E : Ev} {M : Mem} {Q : QT} {a : Id} (h : Q none (M)) : Mth E 1 0 0 kX1_init [vR a] M Q := by
  refine mth_of (by decide +kernel) [some (vR a)] (Nat.le_of_ble_eq_true rfl) rfl ?_
  refine g_aloadR_n dX1_init_0 rfl rfl ?_
  refine g_oinit dX1_init_1 olX1 oim oco (Nat.le_of_ble_eq_true rfl) (Nat.le_of_ble_eq_true rfl) ?_
  refine g_vret dX1_init_4 rfl ?_
  exact h
set_option maxHeartbeats 4000000 in
set_option maxRecDepth 100000 in
theorem wp_X5_init {E : Ev} {M : Mem} {Q : QT} {s : Nat} (hs : s < 9) (hm0 : mN M = off (5, s, 0) + 1) (hm1 : mN M = off (6, s, 0)) (h : Q none (mS5 M s)) : Mth E 1 1 160 kX5_init [vR (5, s, 0)] M Q := by
  refine mth_of (by decide +kernel) [some (vR (5, s, 0))] (Nat.le_of_ble_eq_true rfl) rfl ?_
  refine g_aloadR_n dX5_init_0 rfl rfl ?_
  refine g_oinit dX5_init_1 olX5 oim oco (Nat.le_of_ble_eq_true rfl) (Nat.le_of_ble_eq_true rfl) ?_
  refine g_aloadR_n dX5_init_4 rfl rfl ?_
  refine g_iconst dX5_init_5 (v := (-1)) (by decide) ?_
  refine g_putI dX5_init_6 fX5_9 rfl (vld_sh hs) (by have z := hm0; show off (5, s, 0) < mN M; omega) rfl ?_
  refine g_aloadR_n dX5_init_9 rfl rfl ?_
  refine g_iconst dX5_init_10 (v := (-1)) (by decide) ?_
  refine g_putI dX5_init_11 fX5_15 rfl (vld_sh hs) (by have z := hm0; show off (5, s, 0) < mN M; omega) rfl ?_
  refine g_aloadR_n dX5_init_14 rfl rfl ?_
  refine g_sipush dX5_init_15 (v := 160) (by decide) ?_
  refine g_newL (a := (6, s, 0)) (n := 160) dX5_init_18 rfl rfl (vld_el hs) (by have z := hm1; show off (6, s, 0) = mN M; omega) acL (Nat.le_of_ble_eq_true rfl) (Nat.le_of_ble_eq_true rfl) (Nat.le_of_ble_eq_true rfl) ?_
  refine g_putR (b := (6, s, 0)) dX5_init_20 fX5_18 rfl (hcls (by decide +kernel)) rfl (vld_sh hs) (by have z := hm0; show off (5, s, 0) < mN M + 1; omega) rfl ?_
  refine g_vret dX5_init_23 rfl ?_
  exact h
set_option maxHeartbeats 4000000 in
set_option maxRecDepth 100000 in
theorem wp_X0_init {E : Ev} {M : Mem} {Q : QT} (hm : mN M = 60) (h : Q none (mS0 M)) : Mth E 1 1 20 kX0_init [vR (10, 0, 0)] M Q := by
  refine mth_of (by decide +kernel) [some (vR (10, 0, 0))] (Nat.le_of_ble_eq_true rfl) rfl ?_
  refine g_aloadR_n dX0_init_0 rfl rfl ?_
  refine g_oinit dX0_init_1 olX0 oim oco (Nat.le_of_ble_eq_true rfl) (Nat.le_of_ble_eq_true rfl) ?_
  refine g_aloadR_n dX0_init_4 rfl rfl ?_
  refine g_bipush dX0_init_5 (v := 20) (by decide) ?_
  refine g_newI (a := (11, 0, 0)) (n := 20) dX0_init_7 rfl rfl vld_x11 (by have z := hm; show 60 = mN M; omega) acI (Nat.le_of_ble_eq_true rfl) (Nat.le_of_ble_eq_true rfl) (Nat.le_of_ble_eq_true rfl) ?_
  refine g_putR (b := (11, 0, 0)) dX0_init_9 fX0_9 rfl (hcls (by decide +kernel)) rfl vld_x10 (by have z := hm; show 59 < mN M + 1; omega) rfl ?_
  refine g_vret dX0_init_12 rfl ?_
  exact h
set_option maxHeartbeats 4000000 in
set_option maxRecDepth 100000 in
theorem lp_X4_init {E : Ev} {M : Mem} {Q : QT} {k : Nat} (hk : k < 4) (hm : mN M = sb k + 3) (hp : mR M (1, k, 0) 0 = some (3, k, 0)) (h : Q none (mPs M k 10)) : ∀ j, j ≤ 10 → G E (rm 2 12 120) kX4_init (ZQ E Q 12 120) (2 + j) (20 + 10 * j) 48 [some (vR (1, k, 0)), some (vI (nI j))] [] (mPs M k j) := by
  refine up_loop 10 (fun j hj ih => ?_)
  have hn := mPs_n M k j
  have hr : mR (mPs M k j) (1, k, 0) 0 = some (3, k, 0) := by rw [mPs_r]; exact hp
  refine g_iload_n dX4_init_48 rfl rfl ?_
  refine g_aloadR_n dX4_init_49 rfl rfl ?_
  refine g_getR dX4_init_50 fX4_11 rfl (vld_sc hk) (by show sb k < mN (mPs M k j); omega) hr rfl ?_
  refine g_alen dX4_init_53 (show shp (3, k, 0) = (3, 10) from rfl) (Or.inr (Or.inr (Or.inl rfl))) (vld_pp hk) (by show sb k + 1 < mN (mPs M k j); omega) ?_
  refine g_icmp_ge (tgt := 76) dX4_init_54 (by decide) (fun c54 => ?_) (fun c54 => ?_)
  · have hj2 : j = 10 := by rw [nI_leI (by omega) (by omega)] at c54; omega
    subst hj2
    refine g_vret dX4_init_76 rfl ?_
    exact h
  · have hjn : j < 10 := by rw [nI_leI (by omega) (by omega)] at c54; omega
    refine g_aloadR_n dX4_init_57 rfl rfl ?_
    refine g_getR dX4_init_58 fX4_11 rfl (vld_sc hk) (by show sb k < mN (mPs M k j); omega) hr rfl ?_
    refine g_iload_n dX4_init_61 rfl rfl ?_
    have ho : off (2, k, j) = sb k + 3 + j := if_neg (show ¬ j = 10 by omega)
    refine g_new (a := (2, k, j)) (c := 2) dX4_init_62 rfl (by decide) rfl (vld_pe hk (by omega)) (by rw [ho, hn]; omega) clX4_9 inX2 iiX2 (by show 2 + j + 1 ≤ 12; omega) (by show 20 + 10 * j + 10 ≤ 120; omega) ?_
    refine g_dup dX4_init_65 rfl ?_
    refine g_iniN (n' := 1) (mc := 0) (ms := 0) dX4_init_66 mX2_init rfl lX4_17 ⟨Nat.le_of_ble_eq_true rfl, Nat.le_of_ble_eq_true rfl⟩ ⟨by show 2 + j + 1 + 0 ≤ 12; omega, by show 20 + 10 * j + 10 + 0 ≤ 120; omega⟩ (Nat.le_of_ble_eq_true rfl) (fun Q1 hQ1 => ?_)
    refine wp_X2_init rfl (vld_pe hk (by omega)) (by show off (2, k, j) < mN (mPs M k j) + 1; rw [ho, hn]; omega) ((hQ1 none _).mpr ?_)
    refine g_aast3 (a := (3, k, 0)) (b := (2, k, j)) (n := 10) (j := j) dX4_init_69 rfl (vld_pp hk) (by show sb k + 1 < mN (mPs M k j) + 1; omega) rfl (vld_pe hk (by omega)) (by show off (2, k, j) < mN (mPs M k j) + 1; rw [ho, hn]; omega) rfl hjn (by decide) ?_
    refine g_iinc_1 (v := nI (j + 1)) dX4_init_70 rfl (nI_inc j) ?_
    refine g_goto (tgt := 48) dX4_init_73 (by decide) ?_
    exact ih hjn
set_option maxHeartbeats 4000000 in
set_option maxRecDepth 100000 in
theorem wp_X4_init {E : Ev} {M : Mem} {Q : QT} {k : Nat} (hk : k < 4) (hm : mN M = sb k + 1) (h : Q none (mS4 M k)) : Mth E 2 12 120 kX4_init [vR (1, k, 0)] M Q := by
  refine mth_of (by decide +kernel) [some (vR (1, k, 0)), none] (Nat.le_of_ble_eq_true rfl) rfl ?_
  refine g_aloadR_n dX4_init_0 rfl rfl ?_
  refine g_oinit dX4_init_1 olX4 oim oco (Nat.le_of_ble_eq_true rfl) (Nat.le_of_ble_eq_true rfl) ?_
  refine g_aloadR_n dX4_init_4 rfl rfl ?_
  refine g_bipush dX4_init_5 (v := 10) (by decide) ?_
  refine g_anew3 (a := (3, k, 0)) (n := 10) dX4_init_7 rfl rfl (vld_pp hk) (by have z := hm; show sb k + 1 = mN M; omega) clX4_9 (Nat.le_of_ble_eq_true rfl) (Nat.le_of_ble_eq_true rfl) (Nat.le_of_ble_eq_true rfl) ?_
  refine g_putR (b := (3, k, 0)) dX4_init_10 fX4_11 rfl (hcls (by decide +kernel)) rfl (vld_sc hk) (by have z := hm; show sb k < mN M + 1; omega) rfl ?_
  refine g_aloadR_n dX4_init_13 rfl rfl ?_
  refine g_new (a := (2, k, 10)) (c := 2) dX4_init_14 rfl (by decide) rfl (vld_pe hk (by decide)) (by have z := hm; show sb k + 2 = mN M + 1; omega) clX4_9 inX2 iiX2 (Nat.le_of_ble_eq_true rfl) (Nat.le_of_ble_eq_true rfl) ?_
  refine g_dup dX4_init_17 rfl ?_
  refine g_iniN (n' := 1) (mc := 0) (ms := 0) dX4_init_18 mX2_init rfl lX4_17 ⟨Nat.le_of_ble_eq_true rfl, Nat.le_of_ble_eq_true rfl⟩ ⟨Nat.le_of_ble_eq_true rfl, Nat.le_of_ble_eq_true rfl⟩ (Nat.le_of_ble_eq_true rfl) (fun Q1 hQ1 => ?_)
  refine wp_X2_init rfl (vld_pe hk (by decide)) (by have z := hm; show sb k + 2 < mN M + 2; omega) ((hQ1 none _).mpr ?_)
  refine g_putR (b := (2, k, 10)) dX4_init_21 fX4_18 rfl (hcls (by decide +kernel)) rfl (vld_sc hk) (by have z := hm; show sb k < mN M + 2; omega) rfl ?_
  refine g_aloadR_n dX4_init_24 rfl rfl ?_
  refine g_bipush dX4_init_25 (v := 8) (by decide) ?_
  refine g_putI dX4_init_27 fX4_22 rfl (vld_sc hk) (by have z := hm; show sb k < mN M + 2; omega) rfl ?_
  refine g_aloadR_n dX4_init_30 rfl rfl ?_
  refine g_bipush dX4_init_31 (v := 8) (by decide) ?_
  refine g_putI dX4_init_33 fX4_26 rfl (vld_sc hk) (by have z := hm; show sb k < mN M + 2; omega) rfl ?_
  refine g_aloadR_n dX4_init_36 rfl rfl ?_
  refine g_iconst dX4_init_37 (v := 3) (by decide) ?_
  refine g_putI dX4_init_38 fX4_29 rfl (vld_sc hk) (by have z := hm; show sb k < mN M + 2; omega) rfl ?_
  refine g_aloadR_n dX4_init_41 rfl rfl ?_
  refine g_iconst dX4_init_42 (v := 1) (by decide) ?_
  refine g_putI dX4_init_43 fX4_32 rfl (vld_sc hk) (by have z := hm; show sb k < mN M + 2; omega) rfl ?_
  refine g_iconst dX4_init_46 (v := 0) (by decide) ?_
  refine g_istore_1 dX4_init_47 rfl ?_
  exact lp_X4_init (M := mS4a M k) hk (by show mN M + 2 = _; omega) (by simp [mS4a, mP2, mR, sR, sI, nwM]) h 0 (Nat.zero_le _)
set_option maxHeartbeats 4000000 in
set_option maxRecDepth 100000 in
theorem wp_X3_init {E : Ev} {M : Mem} {Q : QT} (hm : mN M = 45) (h : Q none (mS3 M)) : Mth E 3 14 289 kX3_init [vR (8, 0, 0)] M Q := by
  refine mth_of (by decide +kernel) [some (vR (8, 0, 0))] (Nat.le_of_ble_eq_true rfl) rfl ?_
  refine g_aloadR_n dX3_init_0 rfl rfl ?_
  refine g_oinit dX3_init_1 olX3 oim oco (Nat.le_of_ble_eq_true rfl) (Nat.le_of_ble_eq_true rfl) ?_
  refine g_aloadR_n dX3_init_4 rfl rfl ?_
  refine g_new (a := (1, 3, 0)) (c := 4) dX3_init_5 rfl (by decide) rfl (vld_sc (by decide)) (by have z := hm; show 45 = mN M; omega) clX3_9 inX4 iiX4 (Nat.le_of_ble_eq_true rfl) (Nat.le_of_ble_eq_true rfl) ?_
  refine g_dup dX3_init_8 rfl ?_
  refine g_ini0 (n' := 2) (mc := 12) (ms := 120) dX3_init_9 mX4_init rfl lX3_11 ⟨Nat.le_of_ble_eq_true rfl, Nat.le_of_ble_eq_true rfl⟩ ⟨Nat.le_of_ble_eq_true rfl, Nat.le_of_ble_eq_true rfl⟩ (Nat.le_of_ble_eq_true rfl) (fun Q1 hQ1 => ?_)
  refine wp_X4_init (k := 3) (by decide) (by have z := hm; show mN M + 1 = sb 3 + 1; have e : sb 3 = 45 := rfl; omega) ((hQ1 none _).mpr ?_)
  refine g_mem (fun N1 eN1 => ?_)
  have hN1 : mN N1 = mN M + 13 := by rw [eN1]; exact mS4_n _ _
  have hmN1 := hN1.trans (by have z := hm; rw [z])
  refine g_putR (b := (1, 3, 0)) dX3_init_12 fX3_12 rfl (hcls (by decide +kernel)) rfl vld_x8 (by have z := hmN1; show 44 < mN N1; omega) rfl ?_
  refine g_aloadR_n dX3_init_15 rfl rfl ?_
  refine g_iconst dX3_init_16 (v := (-1)) (by decide) ?_
  refine g_putI dX3_init_17 fX3_18 rfl vld_x8 (by have z := hmN1; show 44 < mN N1; omega) rfl ?_
  refine g_aloadR_n dX3_init_20 rfl rfl ?_
  refine g_sipush dX3_init_21 (v := 160) (by decide) ?_
  refine g_newI (a := (9, 0, 0)) (n := 160) dX3_init_24 rfl rfl vld_x9 (by have z := hmN1; show 58 = mN N1; omega) acI (Nat.le_of_ble_eq_true rfl) (Nat.le_of_ble_eq_true rfl) (Nat.le_of_ble_eq_true rfl) ?_
  refine g_putR (b := (9, 0, 0)) dX3_init_26 fX3_22 rfl (hcls (by decide +kernel)) rfl vld_x8 (by have z := hmN1; show 44 < mN N1 + 1; omega) rfl ?_
  refine g_vret dX3_init_29 rfl ?_
  subst eN1
  exact h
def mS6a (M : Mem) : Mem :=
  let N0 := mS4 (nwM M (1, 0, 0)) 0
  let N1 := mS4 (nwM (sR N0 (0, 0, 0) 0 (some (1, 0, 0))) (1, 1, 0)) 1
  let N2 := mS4 (nwM (sR N1 (0, 0, 0) 1 (some (1, 1, 0))) (1, 2, 0)) 2
  let A := sR (nwM (sR (nwM (sR N2 (0, 0, 0) 2 (some (1, 2, 0))) (4, 0, 0)) (0, 0, 0) 4 (some (4, 0, 0))) (7, 0, 0)) (0, 0, 0) 5 (some (7, 0, 0))
  let N8 := mS3 (nwM (sR (mS5 (nwM A (5, 8, 0)) 8) (0, 0, 0) 6 (some (5, 8, 0))) (8, 0, 0))
  let B := sR (mS0 (nwM (sR N8 (0, 0, 0) 7 (some (8, 0, 0))) (10, 0, 0))) (0, 0, 0) 8 (some (10, 0, 0))
  sI (sR (nwM B (12, 0, 0)) (0, 0, 0) 9 (some (12, 0, 0))) (0, 0, 0) 10 (-1)
def mS6 (M : Mem) : Mem := mSh (mS6a M) 8
set_option maxHeartbeats 4000000 in
set_option maxRecDepth 100000 in
theorem lp_X6_init {E : Ev} {M : Mem} {Q : QT} (hm : mN M = 62) (hp : mR M (0, 0, 0) 5 = some (7, 0, 0)) (h : Q none (mSh M 8)) : ∀ j, j ≤ 8 → G E (rm 4 77 2203) kX6_init (ZQ E Q 77 2203) (61 + 2 * j) (891 + 164 * j) 105 [some (vR (0, 0, 0)), some (vI (nI j))] [] (mSh M j) := by
  refine up_loop 8 (fun j hj ih => ?_)
  have hn := mSh_n M j
  have hr : mR (mSh M j) (0, 0, 0) 5 = some (7, 0, 0) := by rw [mSh_r]; exact hp
  refine g_iload_n dX6_init_105 rfl rfl ?_
  refine g_aloadR_n dX6_init_106 rfl rfl ?_
  refine g_getR dX6_init_107 fX6_31 rfl vld_x0 (by show 0 < mN (mSh M j); omega) hr rfl ?_
  refine g_alen dX6_init_110 (show shp (7, 0, 0) = (4, 8) from rfl) (Or.inr (Or.inr (Or.inr rfl))) vld_x7 (by show 41 < mN (mSh M j); omega) ?_
  refine g_icmp_ge (tgt := 133) dX6_init_111 (by decide) (fun c54 => ?_) (fun c54 => ?_)
  · have hj2 : j = 8 := by rw [nI_leI (by omega) (by omega)] at c54; omega
    subst hj2
    refine g_vret dX6_init_133 rfl ?_
    exact h
  · have hjn : j < 8 := by rw [nI_leI (by omega) (by omega)] at c54; omega
    refine g_aloadR_n dX6_init_114 rfl rfl ?_
    refine g_getR dX6_init_115 fX6_31 rfl vld_x0 (by show 0 < mN (mSh M j); omega) hr rfl ?_
    refine g_iload_n dX6_init_118 rfl rfl ?_
    have ho : off (5, j, 0) = 62 + 2 * j := if_neg (show ¬ j = 8 by omega)
    have ho6 : off (6, j, 0) = 63 + 2 * j := if_neg (show ¬ j = 8 by omega)
    refine g_new (a := (5, j, 0)) (c := 5) dX6_init_119 rfl (by decide) rfl (vld_sh (by omega)) (by rw [ho, hn]; omega) clX6_29 inX5 iiX5 (by show 61 + 2 * j + 1 ≤ 77; omega) (by show 891 + 164 * j + 4 ≤ 2203; omega) ?_
    refine g_dup dX6_init_122 rfl ?_
    refine g_iniN (n' := 1) (mc := 1) (ms := 160) dX6_init_123 mX5_init rfl lX6_35 ⟨Nat.le_of_ble_eq_true rfl, Nat.le_of_ble_eq_true rfl⟩ ⟨by show 61 + 2 * j + 1 + 1 ≤ 77; omega, by show 891 + 164 * j + 4 + 160 ≤ 2203; omega⟩ (Nat.le_of_ble_eq_true rfl) (fun Q1 hQ1 => ?_)
    refine wp_X5_init (s := j) (by omega) (by show mN (mSh M j) + 1 = _; rw [ho, hn]; omega) (by show mN (mSh M j) + 1 = _; rw [ho6, hn]; omega) ((hQ1 none _).mpr ?_)
    refine g_aast4 (a := (7, 0, 0)) (b := (5, j, 0)) (n := 8) (j := j) dX6_init_126 rfl vld_x7 (by show 41 < mN (mSh M j) + 1 + 1; omega) rfl (vld_sh (by omega)) (by show off (5, j, 0) < mN (mSh M j) + 1 + 1; rw [ho, hn]; omega) rfl hjn (by decide) ?_
    refine g_iinc_1 (v := nI (j + 1)) dX6_init_127 rfl (nI_inc j) ?_
    refine g_goto (tgt := 105) dX6_init_130 (by decide) ?_
    have key := ih hjn
    rw [show 61 + 2 * (j + 1) = 61 + 2 * j + 1 + 1 by omega, show 891 + 164 * (j + 1) = 891 + 164 * j + 4 + 160 by omega] at key
    exact key
set_option maxHeartbeats 4000000 in
set_option maxRecDepth 100000 in
theorem wp_X6_init {E : Ev} {M : Mem} {Q : QT} (hm : mN M = 1) (h : Q none (mS6 M)) : Mth E 4 77 2203 kX6_init [vR (0, 0, 0)] M Q := by
  refine mth_of (by decide +kernel) [some (vR (0, 0, 0)), none] (Nat.le_of_ble_eq_true rfl) rfl ?_
  refine g_aloadR_n dX6_init_0 rfl rfl ?_
  refine g_oinit dX6_init_1 olX6 oim oco (Nat.le_of_ble_eq_true rfl) (Nat.le_of_ble_eq_true rfl) ?_
  refine g_aloadR_n dX6_init_4 rfl rfl ?_
  refine g_new (a := (1, 0, 0)) (c := 4) dX6_init_5 rfl (by decide) rfl (vld_sc (by decide)) (by have z := hm; show 1 = mN M; omega) clX6_7 inX4 iiX4 (Nat.le_of_ble_eq_true rfl) (Nat.le_of_ble_eq_true rfl) ?_
  refine g_dup dX6_init_8 rfl ?_
  refine g_ini0 (n' := 2) (mc := 12) (ms := 120) dX6_init_9 mX4_init rfl lX6_9 ⟨Nat.le_of_ble_eq_true rfl, Nat.le_of_ble_eq_true rfl⟩ ⟨Nat.le_of_ble_eq_true rfl, Nat.le_of_ble_eq_true rfl⟩ (Nat.le_of_ble_eq_true rfl) (fun Q1 hQ1 => ?_)
  refine wp_X4_init (k := 0) (by decide) (by have z := hm; show mN M + 1 = sb 0 + 1; have e : sb 0 = 1 := rfl; omega) ((hQ1 none _).mpr ?_)
  refine g_mem (fun N0 eN0 => ?_)
  have hN0 : mN N0 = mN M + 13 := by rw [eN0]; exact mS4_n _ _
  have hmN0 := hN0.trans (by have z := hm; rw [z])
  refine g_putR (b := (1, 0, 0)) dX6_init_12 fX6_10 rfl (hcls (by decide +kernel)) rfl vld_x0 (by have z := hmN0; show 0 < mN N0; omega) rfl ?_
  refine g_aloadR_n dX6_init_15 rfl rfl ?_
  refine g_new (a := (1, 1, 0)) (c := 4) dX6_init_16 rfl (by decide) rfl (vld_sc (by decide)) (by have z := hmN0; show 14 = mN N0; omega) clX6_7 inX4 iiX4 (Nat.le_of_ble_eq_true rfl) (Nat.le_of_ble_eq_true rfl) ?_
  refine g_dup dX6_init_19 rfl ?_
  refine g_ini0 (n' := 2) (mc := 12) (ms := 120) dX6_init_20 mX4_init rfl lX6_9 ⟨Nat.le_of_ble_eq_true rfl, Nat.le_of_ble_eq_true rfl⟩ ⟨Nat.le_of_ble_eq_true rfl, Nat.le_of_ble_eq_true rfl⟩ (Nat.le_of_ble_eq_true rfl) (fun Q1 hQ1 => ?_)
  refine wp_X4_init (k := 1) (by decide) (by have z := hmN0; show mN N0 + 1 = sb 1 + 1; have e : sb 1 = 14 := rfl; omega) ((hQ1 none _).mpr ?_)
  refine g_mem (fun N1 eN1 => ?_)
  have hN1 : mN N1 = mN N0 + 13 := by rw [eN1]; exact mS4_n _ _
  have hmN1 := hN1.trans (by have z := hmN0; rw [z])
  refine g_putR (b := (1, 1, 0)) dX6_init_23 fX6_16 rfl (hcls (by decide +kernel)) rfl vld_x0 (by have z := hmN1; show 0 < mN N1; omega) rfl ?_
  refine g_aloadR_n dX6_init_26 rfl rfl ?_
  refine g_new (a := (1, 2, 0)) (c := 4) dX6_init_27 rfl (by decide) rfl (vld_sc (by decide)) (by have z := hmN1; show 27 = mN N1; omega) clX6_7 inX4 iiX4 (Nat.le_of_ble_eq_true rfl) (Nat.le_of_ble_eq_true rfl) ?_
  refine g_dup dX6_init_30 rfl ?_
  refine g_ini0 (n' := 2) (mc := 12) (ms := 120) dX6_init_31 mX4_init rfl lX6_9 ⟨Nat.le_of_ble_eq_true rfl, Nat.le_of_ble_eq_true rfl⟩ ⟨Nat.le_of_ble_eq_true rfl, Nat.le_of_ble_eq_true rfl⟩ (Nat.le_of_ble_eq_true rfl) (fun Q1 hQ1 => ?_)
  refine wp_X4_init (k := 2) (by decide) (by have z := hmN1; show mN N1 + 1 = sb 2 + 1; have e : sb 2 = 27 := rfl; omega) ((hQ1 none _).mpr ?_)
  refine g_mem (fun N2 eN2 => ?_)
  have hN2 : mN N2 = mN N1 + 13 := by rw [eN2]; exact mS4_n _ _
  have hmN2 := hN2.trans (by have z := hmN1; rw [z])
  refine g_putR (b := (1, 2, 0)) dX6_init_34 fX6_19 rfl (hcls (by decide +kernel)) rfl vld_x0 (by have z := hmN2; show 0 < mN N2; omega) rfl ?_
  refine g_aloadR_n dX6_init_37 rfl rfl ?_
  refine g_new (a := (4, 0, 0)) (c := 1) dX6_init_38 rfl (by decide) rfl vld_x4 (by have z := hmN2; show 40 = mN N2; omega) clX6_22 inX1 iiX1 (Nat.le_of_ble_eq_true rfl) (Nat.le_of_ble_eq_true rfl) ?_
  refine g_dup dX6_init_41 rfl ?_
  refine g_iniN (n' := 1) (mc := 0) (ms := 0) dX6_init_42 mX1_init rfl lX6_24 ⟨Nat.le_of_ble_eq_true rfl, Nat.le_of_ble_eq_true rfl⟩ ⟨Nat.le_of_ble_eq_true rfl, Nat.le_of_ble_eq_true rfl⟩ (Nat.le_of_ble_eq_true rfl) (fun Q1 hQ1 => ?_)
  refine wp_X1_init ((hQ1 none _).mpr ?_)
  refine g_putR (b := (4, 0, 0)) dX6_init_45 fX6_25 rfl (hcls (by decide +kernel)) rfl vld_x0 (by have z := hmN2; show 0 < mN N2 + 1; omega) rfl ?_
  refine g_aloadR_n dX6_init_48 rfl rfl ?_
  refine g_bipush dX6_init_49 (v := 8) (by decide) ?_
  refine g_anew4 (a := (7, 0, 0)) (n := 8) dX6_init_51 rfl rfl vld_x7 (by have z := hmN2; show 41 = mN N2 + 1; omega) clX6_29 (Nat.le_of_ble_eq_true rfl) (Nat.le_of_ble_eq_true rfl) (Nat.le_of_ble_eq_true rfl) ?_
  refine g_putR (b := (7, 0, 0)) dX6_init_54 fX6_31 rfl (hcls (by decide +kernel)) rfl vld_x0 (by have z := hmN2; show 0 < mN N2 + 2; omega) rfl ?_
  refine g_aloadR_n dX6_init_57 rfl rfl ?_
  refine g_new (a := (5, 8, 0)) (c := 5) dX6_init_58 rfl (by decide) rfl (vld_sh (by decide)) (by have z := hmN2; show 42 = mN N2 + 2; omega) clX6_29 inX5 iiX5 (Nat.le_of_ble_eq_true rfl) (Nat.le_of_ble_eq_true rfl) ?_
  refine g_dup dX6_init_61 rfl ?_
  refine g_iniN (n' := 1) (mc := 1) (ms := 160) dX6_init_62 mX5_init rfl lX6_35 ⟨Nat.le_of_ble_eq_true rfl, Nat.le_of_ble_eq_true rfl⟩ ⟨Nat.le_of_ble_eq_true rfl, Nat.le_of_ble_eq_true rfl⟩ (Nat.le_of_ble_eq_true rfl) (fun Q1 hQ1 => ?_)
  refine wp_X5_init (s := 8) (by decide) (by have z := hmN2; show mN N2 + 3 = 42 + 1; omega) (by have z := hmN2; show mN N2 + 3 = 43; omega) ((hQ1 none _).mpr ?_)
  refine g_putR (b := (5, 8, 0)) dX6_init_65 fX6_36 rfl (hcls (by decide +kernel)) rfl vld_x0 (by have z := hmN2; show 0 < mN N2 + 4; omega) rfl ?_
  refine g_aloadR_n dX6_init_68 rfl rfl ?_
  refine g_new (a := (8, 0, 0)) (c := 3) dX6_init_69 rfl (by decide) rfl vld_x8 (by have z := hmN2; show 44 = mN N2 + 4; omega) clX6_40 inX3 iiX3 (Nat.le_of_ble_eq_true rfl) (Nat.le_of_ble_eq_true rfl) ?_
  refine g_dup dX6_init_72 rfl ?_
  refine g_iniN (n' := 3) (mc := 14) (ms := 289) dX6_init_73 mX3_init rfl lX6_42 ⟨Nat.le_of_ble_eq_true rfl, Nat.le_of_ble_eq_true rfl⟩ ⟨Nat.le_of_ble_eq_true rfl, Nat.le_of_ble_eq_true rfl⟩ (Nat.le_of_ble_eq_true rfl) (fun Q1 hQ1 => ?_)
  refine wp_X3_init (by have z := hmN2; show mN N2 + 5 = 45; omega) ((hQ1 none _).mpr ?_)
  refine g_mem (fun N8 eN8 => ?_)
  have hN8 : mN N8 = mN N2 + 19 := by rw [eN8]; show mN (mS4 _ 3) + 1 = _; rw [mS4_n]; rfl
  have hmN8 := hN8.trans (by have z := hmN2; rw [z])
  refine g_putR (b := (8, 0, 0)) dX6_init_76 fX6_43 rfl (hcls (by decide +kernel)) rfl vld_x0 (by have z := hmN8; show 0 < mN N8; omega) rfl ?_
  refine g_aloadR_n dX6_init_79 rfl rfl ?_
  refine g_new (a := (10, 0, 0)) (c := 0) dX6_init_80 rfl (by decide) rfl vld_x10 (by have z := hmN8; show 59 = mN N8; omega) clX6_47 inX0 iiX0 (Nat.le_of_ble_eq_true rfl) (Nat.le_of_ble_eq_true rfl) ?_
  refine g_dup dX6_init_83 rfl ?_
  refine g_iniN (n' := 1) (mc := 1) (ms := 20) dX6_init_84 mX0_init rfl lX6_49 ⟨Nat.le_of_ble_eq_true rfl, Nat.le_of_ble_eq_true rfl⟩ ⟨Nat.le_of_ble_eq_true rfl, Nat.le_of_ble_eq_true rfl⟩ (Nat.le_of_ble_eq_true rfl) (fun Q1 hQ1 => ?_)
  refine wp_X0_init (by have z := hmN8; show mN N8 + 1 = 60; omega) ((hQ1 none _).mpr ?_)
  refine g_putR (b := (10, 0, 0)) dX6_init_87 fX6_50 rfl (hcls (by decide +kernel)) rfl vld_x0 (by have z := hmN8; show 0 < mN N8 + 2; omega) rfl ?_
  refine g_aloadR_n dX6_init_90 rfl rfl ?_
  refine g_bipush dX6_init_91 (v := 8) (by decide) ?_
  refine g_newI (a := (12, 0, 0)) (n := 8) dX6_init_93 rfl rfl vld_x12 (by have z := hmN8; show 61 = mN N8 + 2; omega) acI (Nat.le_of_ble_eq_true rfl) (Nat.le_of_ble_eq_true rfl) (Nat.le_of_ble_eq_true rfl) ?_
  refine g_putR (b := (12, 0, 0)) dX6_init_95 fX6_54 rfl (hcls (by decide +kernel)) rfl vld_x0 (by have z := hmN8; show 0 < mN N8 + 3; omega) rfl ?_
  refine g_aloadR_n dX6_init_98 rfl rfl ?_
  refine g_iconst dX6_init_99 (v := (-1)) (by decide) ?_
  refine g_putI dX6_init_100 fX6_58 rfl vld_x0 (by have z := hmN8; show 0 < mN N8 + 3; omega) rfl ?_
  refine g_iconst dX6_init_103 (v := 0) (by decide) ?_
  refine g_istore_1 dX6_init_104 rfl ?_
  refine g_mem (fun NF eNF => ?_)
  have hmF : mN NF = 62 := by rw [eNF]; show mN N8 + 3 = 62; have z := hmN8; omega
  have hp : mR NF (0, 0, 0) 5 = some (7, 0, 0) := by
    have h8 : mR N8 (0, 0, 0) 5 = some (7, 0, 0) := by rw [eN8, mS3_r0]; rfl
    rw [eNF]
    exact h8
  have hh : NF = mS6a M := by subst eN0 eN1 eN2 eN8; exact eNF
  exact lp_X6_init hmF hp (by rw [hh]; exact h) 0 (Nat.zero_le _)
def mS7 (M : Mem) : Mem := sR (nwM (sR (nwM (sR (nwM (sR (nwM (sR (nwM (sR (nwM (sR (sI (sI (sI (sI (nwM (sR (sI (sI (sI (sI (sI (sI (sI (nwM (sR (sI (sI (sI (sI (sI (sI (sI (sI (sI (sI (sI (sI (sI (sI (sI (sI (sI (sI (sI (sI (sI (sI (sI (sI (sI (sI (sI (sI (sI (sI (sI (sI (sI (sI (sI (sI (sI (sI (sI (sI (sI (sI (sI (sI (sI (sI (sI (sI (nwM (sR (nwM (sR (nwM (sR (nwM (sR (nwM (sR (nwM (sR (nwM (sR (nwM (sR (nwM (sR (nwM (sR (nwM (sR (nwM (sR (nwM (sR (nwM (sR (nwM (sR (nwM (sR (nwM (sI (sI (sI (sI (sI (M) (20, 0, 0) 1 (8)) (20, 0, 0) 3 (8)) (20, 0, 0) 4 (3)) (20, 0, 0) 6 (1)) (20, 0, 0) 7 (-1)) (21, 0, 0)) (20, 0, 0) 8 (some (21, 0, 0))) (21, 1, 0)) (20, 0, 0) 9 (some (21, 1, 0))) (21, 2, 0)) (20, 0, 0) 10 (some (21, 2, 0))) (21, 3, 0)) (20, 0, 0) 11 (some (21, 3, 0))) (21, 4, 0)) (20, 0, 0) 12 (some (21, 4, 0))) (21, 5, 0)) (20, 0, 0) 13 (some (21, 5, 0))) (21, 6, 0)) (20, 0, 0) 14 (some (21, 6, 0))) (21, 7, 0)) (20, 0, 0) 15 (some (21, 7, 0))) (21, 8, 0)) (20, 0, 0) 16 (some (21, 8, 0))) (21, 9, 0)) (20, 0, 0) 17 (some (21, 9, 0))) (21, 10, 0)) (20, 0, 0) 18 (some (21, 10, 0))) (21, 11, 0)) (20, 0, 0) 19 (some (21, 11, 0))) (21, 12, 0)) (20, 0, 0) 20 (some (21, 12, 0))) (21, 13, 0)) (20, 0, 0) 21 (some (21, 13, 0))) (21, 14, 0)) (20, 0, 0) 22 (some (21, 14, 0))) (21, 15, 0)) (20, 0, 0) 23 (some (21, 15, 0))) (21, 16, 0)) (21, 16, 0) 0 (112)) (21, 16, 0) 1 (101)) (21, 16, 0) 2 (114)) (21, 16, 0) 3 (115)) (21, 16, 0) 4 (111)) (21, 16, 0) 5 (110)) (21, 16, 0) 6 (32)) (21, 16, 0) 7 (0)) (21, 16, 0) 8 (102)) (21, 16, 0) 9 (114)) (21, 16, 0) 10 (105)) (21, 16, 0) 11 (101)) (21, 16, 0) 12 (110)) (21, 16, 0) 13 (100)) (21, 16, 0) 14 (32)) (21, 16, 0) 15 (0)) (21, 16, 0) 16 (108)) (21, 16, 0) 17 (101)) (21, 16, 0) 18 (118)) (21, 16, 0) 19 (101)) (21, 16, 0) 20 (108)) (21, 16, 0) 21 (32)) (21, 16, 0) 22 (0)) (21, 16, 0) 23 (114)) (21, 16, 0) 24 (97)) (21, 16, 0) 25 (105)) (21, 16, 0) 26 (110)) (21, 16, 0) 27 (32)) (21, 16, 0) 28 (0)) (21, 16, 0) 29 (99)) (21, 16, 0) 30 (104)) (21, 16, 0) 31 (97)) (21, 16, 0) 32 (105)) (21, 16, 0) 33 (114)) (21, 16, 0) 34 (115)) (21, 16, 0) 35 (32)) (21, 16, 0) 36 (0)) (21, 16, 0) 37 (98)) (21, 16, 0) 38 (97)) (21, 16, 0) 39 (114)) (21, 16, 0) 40 (32)) (21, 16, 0) 41 (0)) (21, 16, 0) 42 (103)) (21, 16, 0) 43 (111)) (21, 16, 0) 44 (110)) (21, 16, 0) 45 (101)) (21, 16, 0) 46 (32)) (21, 16, 0) 47 (0)) (20, 0, 0) 24 (some (21, 16, 0))) (21, 17, 0)) (21, 17, 0) 0 (4)) (21, 17, 0) 1 (2)) (21, 17, 0) 2 (1)) (21, 17, 0) 3 (1)) (21, 17, 0) 4 (1)) (21, 17, 0) 5 (1)) (21, 17, 0) 6 (1)) (20, 0, 0) 25 (some (21, 17, 0))) (21, 18, 0)) (21, 18, 0) 0 (6)) (21, 18, 0) 1 (9)) (21, 18, 0) 2 (20)) (21, 18, 0) 3 (1)) (20, 0, 0) 26 (some (21, 18, 0))) (21, 19, 0)) (20, 0, 0) 27 (some (21, 19, 0))) (21, 20, 0)) (20, 0, 0) 33 (some (21, 20, 0))) (21, 21, 0)) (20, 0, 0) 34 (some (21, 21, 0))) (21, 22, 0)) (20, 0, 0) 35 (some (21, 22, 0))) (21, 23, 0)) (20, 0, 0) 46 (some (21, 23, 0))) (21, 24, 0)) (20, 0, 0) 47 (some (21, 24, 0))
set_option maxHeartbeats 4000000 in
set_option maxRecDepth 100000 in
theorem wp_X7_init {E : Ev} {M : Mem} {Q : QT} (hm : mN M = 79) (h : Q none (mS7 M)) : Mth E 1 25 1963 kX7_init [vR (20, 0, 0)] M Q := by
  refine mth_of (by decide +kernel) [some (vR (20, 0, 0))] (Nat.le_of_ble_eq_true rfl) rfl ?_
  refine g_aloadR_n dX7_init_0 rfl rfl ?_
  refine g_oinit dX7_init_1 olX7 oim oco (Nat.le_of_ble_eq_true rfl) (Nat.le_of_ble_eq_true rfl) ?_
  refine g_aloadR_n dX7_init_4 rfl rfl ?_
  refine g_bipush dX7_init_5 (v := 8) (by decide) ?_
  refine g_putI dX7_init_7 fX7_7 rfl vld_x20 (by have z := hm; show 78 < mN M; omega) rfl ?_
  refine g_aloadR_n dX7_init_10 rfl rfl ?_
  refine g_bipush dX7_init_11 (v := 8) (by decide) ?_
  refine g_putI dX7_init_13 fX7_13 rfl vld_x20 (by have z := hm; show 78 < mN M; omega) rfl ?_
  refine g_aloadR_n dX7_init_16 rfl rfl ?_
  refine g_iconst dX7_init_17 (v := 3) (by decide) ?_
  refine g_putI dX7_init_18 fX7_16 rfl vld_x20 (by have z := hm; show 78 < mN M; omega) rfl ?_
  refine g_aloadR_n dX7_init_21 rfl rfl ?_
  refine g_iconst dX7_init_22 (v := 1) (by decide) ?_
  refine g_putI dX7_init_23 fX7_19 rfl vld_x20 (by have z := hm; show 78 < mN M; omega) rfl ?_
  refine g_aloadR_n dX7_init_26 rfl rfl ?_
  refine g_iconst dX7_init_27 (v := (-1)) (by decide) ?_
  refine g_putI dX7_init_28 fX7_22 rfl vld_x20 (by have z := hm; show 78 < mN M; omega) rfl ?_
  refine g_aloadR_n dX7_init_31 rfl rfl ?_
  refine g_bipush dX7_init_32 (v := 8) (by decide) ?_
  refine g_newI (a := (21, 0, 0)) (n := 8) dX7_init_34 rfl rfl (vld_ma (by decide)) (by have z := hm; show 79 = mN M; omega) acI (Nat.le_of_ble_eq_true rfl) (Nat.le_of_ble_eq_true rfl) (Nat.le_of_ble_eq_true rfl) ?_
  refine g_putR (b := (21, 0, 0)) dX7_init_36 fX7_25 rfl (hcls (by decide +kernel)) rfl vld_x20 (by have z := hm; show 78 < mN M + 1; omega) rfl ?_
  refine g_aloadR_n dX7_init_39 rfl rfl ?_
  refine g_bipush dX7_init_40 (v := 10) (by decide) ?_
  refine g_newI (a := (21, 1, 0)) (n := 10) dX7_init_42 rfl rfl (vld_ma (by decide)) (by have z := hm; show 80 = mN M + 1; omega) acI (Nat.le_of_ble_eq_true rfl) (Nat.le_of_ble_eq_true rfl) (Nat.le_of_ble_eq_true rfl) ?_
  refine g_putR (b := (21, 1, 0)) dX7_init_44 fX7_29 rfl (hcls (by decide +kernel)) rfl vld_x20 (by have z := hm; show 78 < mN M + 2; omega) rfl ?_
  refine g_aloadR_n dX7_init_47 rfl rfl ?_
  refine g_bipush dX7_init_48 (v := 10) (by decide) ?_
  refine g_newI (a := (21, 2, 0)) (n := 10) dX7_init_50 rfl rfl (vld_ma (by decide)) (by have z := hm; show 81 = mN M + 2; omega) acI (Nat.le_of_ble_eq_true rfl) (Nat.le_of_ble_eq_true rfl) (Nat.le_of_ble_eq_true rfl) ?_
  refine g_putR (b := (21, 2, 0)) dX7_init_52 fX7_32 rfl (hcls (by decide +kernel)) rfl vld_x20 (by have z := hm; show 78 < mN M + 3; omega) rfl ?_
  refine g_aloadR_n dX7_init_55 rfl rfl ?_
  refine g_bipush dX7_init_56 (v := 10) (by decide) ?_
  refine g_newI (a := (21, 3, 0)) (n := 10) dX7_init_58 rfl rfl (vld_ma (by decide)) (by have z := hm; show 82 = mN M + 3; omega) acI (Nat.le_of_ble_eq_true rfl) (Nat.le_of_ble_eq_true rfl) (Nat.le_of_ble_eq_true rfl) ?_
  refine g_putR (b := (21, 3, 0)) dX7_init_60 fX7_35 rfl (hcls (by decide +kernel)) rfl vld_x20 (by have z := hm; show 78 < mN M + 4; omega) rfl ?_
  refine g_aloadR_n dX7_init_63 rfl rfl ?_
  refine g_bipush dX7_init_64 (v := 10) (by decide) ?_
  refine g_newI (a := (21, 4, 0)) (n := 10) dX7_init_66 rfl rfl (vld_ma (by decide)) (by have z := hm; show 83 = mN M + 4; omega) acI (Nat.le_of_ble_eq_true rfl) (Nat.le_of_ble_eq_true rfl) (Nat.le_of_ble_eq_true rfl) ?_
  refine g_putR (b := (21, 4, 0)) dX7_init_68 fX7_38 rfl (hcls (by decide +kernel)) rfl vld_x20 (by have z := hm; show 78 < mN M + 5; omega) rfl ?_
  refine g_aloadR_n dX7_init_71 rfl rfl ?_
  refine g_bipush dX7_init_72 (v := 10) (by decide) ?_
  refine g_newI (a := (21, 5, 0)) (n := 10) dX7_init_74 rfl rfl (vld_ma (by decide)) (by have z := hm; show 84 = mN M + 5; omega) acI (Nat.le_of_ble_eq_true rfl) (Nat.le_of_ble_eq_true rfl) (Nat.le_of_ble_eq_true rfl) ?_
  refine g_putR (b := (21, 5, 0)) dX7_init_76 fX7_41 rfl (hcls (by decide +kernel)) rfl vld_x20 (by have z := hm; show 78 < mN M + 6; omega) rfl ?_
  refine g_aloadR_n dX7_init_79 rfl rfl ?_
  refine g_bipush dX7_init_80 (v := 10) (by decide) ?_
  refine g_newI (a := (21, 6, 0)) (n := 10) dX7_init_82 rfl rfl (vld_ma (by decide)) (by have z := hm; show 85 = mN M + 6; omega) acI (Nat.le_of_ble_eq_true rfl) (Nat.le_of_ble_eq_true rfl) (Nat.le_of_ble_eq_true rfl) ?_
  refine g_putR (b := (21, 6, 0)) dX7_init_84 fX7_44 rfl (hcls (by decide +kernel)) rfl vld_x20 (by have z := hm; show 78 < mN M + 7; omega) rfl ?_
  refine g_aloadR_n dX7_init_87 rfl rfl ?_
  refine g_bipush dX7_init_88 (v := 10) (by decide) ?_
  refine g_newI (a := (21, 7, 0)) (n := 10) dX7_init_90 rfl rfl (vld_ma (by decide)) (by have z := hm; show 86 = mN M + 7; omega) acI (Nat.le_of_ble_eq_true rfl) (Nat.le_of_ble_eq_true rfl) (Nat.le_of_ble_eq_true rfl) ?_
  refine g_putR (b := (21, 7, 0)) dX7_init_92 fX7_47 rfl (hcls (by decide +kernel)) rfl vld_x20 (by have z := hm; show 78 < mN M + 8; omega) rfl ?_
  refine g_aloadR_n dX7_init_95 rfl rfl ?_
  refine g_bipush dX7_init_96 (v := 10) (by decide) ?_
  refine g_newI (a := (21, 8, 0)) (n := 10) dX7_init_98 rfl rfl (vld_ma (by decide)) (by have z := hm; show 87 = mN M + 8; omega) acI (Nat.le_of_ble_eq_true rfl) (Nat.le_of_ble_eq_true rfl) (Nat.le_of_ble_eq_true rfl) ?_
  refine g_putR (b := (21, 8, 0)) dX7_init_100 fX7_50 rfl (hcls (by decide +kernel)) rfl vld_x20 (by have z := hm; show 78 < mN M + 9; omega) rfl ?_
  refine g_aloadR_n dX7_init_103 rfl rfl ?_
  refine g_bipush dX7_init_104 (v := 10) (by decide) ?_
  refine g_newI (a := (21, 9, 0)) (n := 10) dX7_init_106 rfl rfl (vld_ma (by decide)) (by have z := hm; show 88 = mN M + 9; omega) acI (Nat.le_of_ble_eq_true rfl) (Nat.le_of_ble_eq_true rfl) (Nat.le_of_ble_eq_true rfl) ?_
  refine g_putR (b := (21, 9, 0)) dX7_init_108 fX7_53 rfl (hcls (by decide +kernel)) rfl vld_x20 (by have z := hm; show 78 < mN M + 10; omega) rfl ?_
  refine g_aloadR_n dX7_init_111 rfl rfl ?_
  refine g_bipush dX7_init_112 (v := 8) (by decide) ?_
  refine g_newI (a := (21, 10, 0)) (n := 8) dX7_init_114 rfl rfl (vld_ma (by decide)) (by have z := hm; show 89 = mN M + 10; omega) acI (Nat.le_of_ble_eq_true rfl) (Nat.le_of_ble_eq_true rfl) (Nat.le_of_ble_eq_true rfl) ?_
  refine g_putR (b := (21, 10, 0)) dX7_init_116 fX7_56 rfl (hcls (by decide +kernel)) rfl vld_x20 (by have z := hm; show 78 < mN M + 11; omega) rfl ?_
  refine g_aloadR_n dX7_init_119 rfl rfl ?_
  refine g_bipush dX7_init_120 (v := 8) (by decide) ?_
  refine g_newI (a := (21, 11, 0)) (n := 8) dX7_init_122 rfl rfl (vld_ma (by decide)) (by have z := hm; show 90 = mN M + 11; omega) acI (Nat.le_of_ble_eq_true rfl) (Nat.le_of_ble_eq_true rfl) (Nat.le_of_ble_eq_true rfl) ?_
  refine g_putR (b := (21, 11, 0)) dX7_init_124 fX7_59 rfl (hcls (by decide +kernel)) rfl vld_x20 (by have z := hm; show 78 < mN M + 12; omega) rfl ?_
  refine g_aloadR_n dX7_init_127 rfl rfl ?_
  refine g_bipush dX7_init_128 (v := 8) (by decide) ?_
  refine g_newI (a := (21, 12, 0)) (n := 8) dX7_init_130 rfl rfl (vld_ma (by decide)) (by have z := hm; show 91 = mN M + 12; omega) acI (Nat.le_of_ble_eq_true rfl) (Nat.le_of_ble_eq_true rfl) (Nat.le_of_ble_eq_true rfl) ?_
  refine g_putR (b := (21, 12, 0)) dX7_init_132 fX7_62 rfl (hcls (by decide +kernel)) rfl vld_x20 (by have z := hm; show 78 < mN M + 13; omega) rfl ?_
  refine g_aloadR_n dX7_init_135 rfl rfl ?_
  refine g_bipush dX7_init_136 (v := 8) (by decide) ?_
  refine g_newI (a := (21, 13, 0)) (n := 8) dX7_init_138 rfl rfl (vld_ma (by decide)) (by have z := hm; show 92 = mN M + 13; omega) acI (Nat.le_of_ble_eq_true rfl) (Nat.le_of_ble_eq_true rfl) (Nat.le_of_ble_eq_true rfl) ?_
  refine g_putR (b := (21, 13, 0)) dX7_init_140 fX7_65 rfl (hcls (by decide +kernel)) rfl vld_x20 (by have z := hm; show 78 < mN M + 14; omega) rfl ?_
  refine g_aloadR_n dX7_init_143 rfl rfl ?_
  refine g_sipush dX7_init_144 (v := 1280) (by decide) ?_
  refine g_newL (a := (21, 14, 0)) (n := 1280) dX7_init_147 rfl rfl (vld_ma (by decide)) (by have z := hm; show 93 = mN M + 14; omega) acL (Nat.le_of_ble_eq_true rfl) (Nat.le_of_ble_eq_true rfl) (Nat.le_of_ble_eq_true rfl) ?_
  refine g_putR (b := (21, 14, 0)) dX7_init_149 fX7_68 rfl (hcls (by decide +kernel)) rfl vld_x20 (by have z := hm; show 78 < mN M + 15; omega) rfl ?_
  refine g_aloadR_n dX7_init_152 rfl rfl ?_
  refine g_sipush dX7_init_153 (v := 160) (by decide) ?_
  refine g_newL (a := (21, 15, 0)) (n := 160) dX7_init_156 rfl rfl (vld_ma (by decide)) (by have z := hm; show 94 = mN M + 15; omega) acL (Nat.le_of_ble_eq_true rfl) (Nat.le_of_ble_eq_true rfl) (Nat.le_of_ble_eq_true rfl) ?_
  refine g_putR (b := (21, 15, 0)) dX7_init_158 fX7_72 rfl (hcls (by decide +kernel)) rfl vld_x20 (by have z := hm; show 78 < mN M + 16; omega) rfl ?_
  refine g_aloadR_n dX7_init_161 rfl rfl ?_
  refine g_bipush dX7_init_162 (v := 48) (by decide) ?_
  refine g_newI (a := (21, 16, 0)) (n := 48) dX7_init_164 rfl rfl (vld_ma (by decide)) (by have z := hm; show 95 = mN M + 16; omega) acI (Nat.le_of_ble_eq_true rfl) (Nat.le_of_ble_eq_true rfl) (Nat.le_of_ble_eq_true rfl) ?_
  refine g_dup dX7_init_166 rfl ?_
  refine g_iconst dX7_init_167 (v := 0) (by decide) ?_
  refine g_bipush dX7_init_168 (v := 112) (by decide) ?_
  refine g_iast (j := 0) dX7_init_170 rfl (vld_ma (by decide)) (by have z := hm; show 95 < mN M + 17; omega) rfl (by decide) (by decide) ?_
  refine g_dup dX7_init_171 rfl ?_
  refine g_iconst dX7_init_172 (v := 1) (by decide) ?_
  refine g_bipush dX7_init_173 (v := 101) (by decide) ?_
  refine g_iast (j := 1) dX7_init_175 rfl (vld_ma (by decide)) (by have z := hm; show 95 < mN M + 17; omega) rfl (by decide) (by decide) ?_
  refine g_dup dX7_init_176 rfl ?_
  refine g_iconst dX7_init_177 (v := 2) (by decide) ?_
  refine g_bipush dX7_init_178 (v := 114) (by decide) ?_
  refine g_iast (j := 2) dX7_init_180 rfl (vld_ma (by decide)) (by have z := hm; show 95 < mN M + 17; omega) rfl (by decide) (by decide) ?_
  refine g_dup dX7_init_181 rfl ?_
  refine g_iconst dX7_init_182 (v := 3) (by decide) ?_
  refine g_bipush dX7_init_183 (v := 115) (by decide) ?_
  refine g_iast (j := 3) dX7_init_185 rfl (vld_ma (by decide)) (by have z := hm; show 95 < mN M + 17; omega) rfl (by decide) (by decide) ?_
  refine g_dup dX7_init_186 rfl ?_
  refine g_iconst dX7_init_187 (v := 4) (by decide) ?_
  refine g_bipush dX7_init_188 (v := 111) (by decide) ?_
  refine g_iast (j := 4) dX7_init_190 rfl (vld_ma (by decide)) (by have z := hm; show 95 < mN M + 17; omega) rfl (by decide) (by decide) ?_
  refine g_dup dX7_init_191 rfl ?_
  refine g_iconst dX7_init_192 (v := 5) (by decide) ?_
  refine g_bipush dX7_init_193 (v := 110) (by decide) ?_
  refine g_iast (j := 5) dX7_init_195 rfl (vld_ma (by decide)) (by have z := hm; show 95 < mN M + 17; omega) rfl (by decide) (by decide) ?_
  refine g_dup dX7_init_196 rfl ?_
  refine g_bipush dX7_init_197 (v := 6) (by decide) ?_
  refine g_bipush dX7_init_199 (v := 32) (by decide) ?_
  refine g_iast (j := 6) dX7_init_201 rfl (vld_ma (by decide)) (by have z := hm; show 95 < mN M + 17; omega) rfl (by decide) (by decide) ?_
  refine g_dup dX7_init_202 rfl ?_
  refine g_bipush dX7_init_203 (v := 7) (by decide) ?_
  refine g_iconst dX7_init_205 (v := 0) (by decide) ?_
  refine g_iast (j := 7) dX7_init_206 rfl (vld_ma (by decide)) (by have z := hm; show 95 < mN M + 17; omega) rfl (by decide) (by decide) ?_
  refine g_dup dX7_init_207 rfl ?_
  refine g_bipush dX7_init_208 (v := 8) (by decide) ?_
  refine g_bipush dX7_init_210 (v := 102) (by decide) ?_
  refine g_iast (j := 8) dX7_init_212 rfl (vld_ma (by decide)) (by have z := hm; show 95 < mN M + 17; omega) rfl (by decide) (by decide) ?_
  refine g_dup dX7_init_213 rfl ?_
  refine g_bipush dX7_init_214 (v := 9) (by decide) ?_
  refine g_bipush dX7_init_216 (v := 114) (by decide) ?_
  refine g_iast (j := 9) dX7_init_218 rfl (vld_ma (by decide)) (by have z := hm; show 95 < mN M + 17; omega) rfl (by decide) (by decide) ?_
  refine g_dup dX7_init_219 rfl ?_
  refine g_bipush dX7_init_220 (v := 10) (by decide) ?_
  refine g_bipush dX7_init_222 (v := 105) (by decide) ?_
  refine g_iast (j := 10) dX7_init_224 rfl (vld_ma (by decide)) (by have z := hm; show 95 < mN M + 17; omega) rfl (by decide) (by decide) ?_
  refine g_dup dX7_init_225 rfl ?_
  refine g_bipush dX7_init_226 (v := 11) (by decide) ?_
  refine g_bipush dX7_init_228 (v := 101) (by decide) ?_
  refine g_iast (j := 11) dX7_init_230 rfl (vld_ma (by decide)) (by have z := hm; show 95 < mN M + 17; omega) rfl (by decide) (by decide) ?_
  refine g_dup dX7_init_231 rfl ?_
  refine g_bipush dX7_init_232 (v := 12) (by decide) ?_
  refine g_bipush dX7_init_234 (v := 110) (by decide) ?_
  refine g_iast (j := 12) dX7_init_236 rfl (vld_ma (by decide)) (by have z := hm; show 95 < mN M + 17; omega) rfl (by decide) (by decide) ?_
  refine g_dup dX7_init_237 rfl ?_
  refine g_bipush dX7_init_238 (v := 13) (by decide) ?_
  refine g_bipush dX7_init_240 (v := 100) (by decide) ?_
  refine g_iast (j := 13) dX7_init_242 rfl (vld_ma (by decide)) (by have z := hm; show 95 < mN M + 17; omega) rfl (by decide) (by decide) ?_
  refine g_dup dX7_init_243 rfl ?_
  refine g_bipush dX7_init_244 (v := 14) (by decide) ?_
  refine g_bipush dX7_init_246 (v := 32) (by decide) ?_
  refine g_iast (j := 14) dX7_init_248 rfl (vld_ma (by decide)) (by have z := hm; show 95 < mN M + 17; omega) rfl (by decide) (by decide) ?_
  refine g_dup dX7_init_249 rfl ?_
  refine g_bipush dX7_init_250 (v := 15) (by decide) ?_
  refine g_iconst dX7_init_252 (v := 0) (by decide) ?_
  refine g_iast (j := 15) dX7_init_253 rfl (vld_ma (by decide)) (by have z := hm; show 95 < mN M + 17; omega) rfl (by decide) (by decide) ?_
  refine g_dup dX7_init_254 rfl ?_
  refine g_bipush dX7_init_255 (v := 16) (by decide) ?_
  refine g_bipush dX7_init_257 (v := 108) (by decide) ?_
  refine g_iast (j := 16) dX7_init_259 rfl (vld_ma (by decide)) (by have z := hm; show 95 < mN M + 17; omega) rfl (by decide) (by decide) ?_
  refine g_dup dX7_init_260 rfl ?_
  refine g_bipush dX7_init_261 (v := 17) (by decide) ?_
  refine g_bipush dX7_init_263 (v := 101) (by decide) ?_
  refine g_iast (j := 17) dX7_init_265 rfl (vld_ma (by decide)) (by have z := hm; show 95 < mN M + 17; omega) rfl (by decide) (by decide) ?_
  refine g_dup dX7_init_266 rfl ?_
  refine g_bipush dX7_init_267 (v := 18) (by decide) ?_
  refine g_bipush dX7_init_269 (v := 118) (by decide) ?_
  refine g_iast (j := 18) dX7_init_271 rfl (vld_ma (by decide)) (by have z := hm; show 95 < mN M + 17; omega) rfl (by decide) (by decide) ?_
  refine g_dup dX7_init_272 rfl ?_
  refine g_bipush dX7_init_273 (v := 19) (by decide) ?_
  refine g_bipush dX7_init_275 (v := 101) (by decide) ?_
  refine g_iast (j := 19) dX7_init_277 rfl (vld_ma (by decide)) (by have z := hm; show 95 < mN M + 17; omega) rfl (by decide) (by decide) ?_
  refine g_dup dX7_init_278 rfl ?_
  refine g_bipush dX7_init_279 (v := 20) (by decide) ?_
  refine g_bipush dX7_init_281 (v := 108) (by decide) ?_
  refine g_iast (j := 20) dX7_init_283 rfl (vld_ma (by decide)) (by have z := hm; show 95 < mN M + 17; omega) rfl (by decide) (by decide) ?_
  refine g_dup dX7_init_284 rfl ?_
  refine g_bipush dX7_init_285 (v := 21) (by decide) ?_
  refine g_bipush dX7_init_287 (v := 32) (by decide) ?_
  refine g_iast (j := 21) dX7_init_289 rfl (vld_ma (by decide)) (by have z := hm; show 95 < mN M + 17; omega) rfl (by decide) (by decide) ?_
  refine g_dup dX7_init_290 rfl ?_
  refine g_bipush dX7_init_291 (v := 22) (by decide) ?_
  refine g_iconst dX7_init_293 (v := 0) (by decide) ?_
  refine g_iast (j := 22) dX7_init_294 rfl (vld_ma (by decide)) (by have z := hm; show 95 < mN M + 17; omega) rfl (by decide) (by decide) ?_
  refine g_dup dX7_init_295 rfl ?_
  refine g_bipush dX7_init_296 (v := 23) (by decide) ?_
  refine g_bipush dX7_init_298 (v := 114) (by decide) ?_
  refine g_iast (j := 23) dX7_init_300 rfl (vld_ma (by decide)) (by have z := hm; show 95 < mN M + 17; omega) rfl (by decide) (by decide) ?_
  refine g_dup dX7_init_301 rfl ?_
  refine g_bipush dX7_init_302 (v := 24) (by decide) ?_
  refine g_bipush dX7_init_304 (v := 97) (by decide) ?_
  refine g_iast (j := 24) dX7_init_306 rfl (vld_ma (by decide)) (by have z := hm; show 95 < mN M + 17; omega) rfl (by decide) (by decide) ?_
  refine g_dup dX7_init_307 rfl ?_
  refine g_bipush dX7_init_308 (v := 25) (by decide) ?_
  refine g_bipush dX7_init_310 (v := 105) (by decide) ?_
  refine g_iast (j := 25) dX7_init_312 rfl (vld_ma (by decide)) (by have z := hm; show 95 < mN M + 17; omega) rfl (by decide) (by decide) ?_
  refine g_dup dX7_init_313 rfl ?_
  refine g_bipush dX7_init_314 (v := 26) (by decide) ?_
  refine g_bipush dX7_init_316 (v := 110) (by decide) ?_
  refine g_iast (j := 26) dX7_init_318 rfl (vld_ma (by decide)) (by have z := hm; show 95 < mN M + 17; omega) rfl (by decide) (by decide) ?_
  refine g_dup dX7_init_319 rfl ?_
  refine g_bipush dX7_init_320 (v := 27) (by decide) ?_
  refine g_bipush dX7_init_322 (v := 32) (by decide) ?_
  refine g_iast (j := 27) dX7_init_324 rfl (vld_ma (by decide)) (by have z := hm; show 95 < mN M + 17; omega) rfl (by decide) (by decide) ?_
  refine g_dup dX7_init_325 rfl ?_
  refine g_bipush dX7_init_326 (v := 28) (by decide) ?_
  refine g_iconst dX7_init_328 (v := 0) (by decide) ?_
  refine g_iast (j := 28) dX7_init_329 rfl (vld_ma (by decide)) (by have z := hm; show 95 < mN M + 17; omega) rfl (by decide) (by decide) ?_
  refine g_dup dX7_init_330 rfl ?_
  refine g_bipush dX7_init_331 (v := 29) (by decide) ?_
  refine g_bipush dX7_init_333 (v := 99) (by decide) ?_
  refine g_iast (j := 29) dX7_init_335 rfl (vld_ma (by decide)) (by have z := hm; show 95 < mN M + 17; omega) rfl (by decide) (by decide) ?_
  refine g_dup dX7_init_336 rfl ?_
  refine g_bipush dX7_init_337 (v := 30) (by decide) ?_
  refine g_bipush dX7_init_339 (v := 104) (by decide) ?_
  refine g_iast (j := 30) dX7_init_341 rfl (vld_ma (by decide)) (by have z := hm; show 95 < mN M + 17; omega) rfl (by decide) (by decide) ?_
  refine g_dup dX7_init_342 rfl ?_
  refine g_bipush dX7_init_343 (v := 31) (by decide) ?_
  refine g_bipush dX7_init_345 (v := 97) (by decide) ?_
  refine g_iast (j := 31) dX7_init_347 rfl (vld_ma (by decide)) (by have z := hm; show 95 < mN M + 17; omega) rfl (by decide) (by decide) ?_
  refine g_dup dX7_init_348 rfl ?_
  refine g_bipush dX7_init_349 (v := 32) (by decide) ?_
  refine g_bipush dX7_init_351 (v := 105) (by decide) ?_
  refine g_iast (j := 32) dX7_init_353 rfl (vld_ma (by decide)) (by have z := hm; show 95 < mN M + 17; omega) rfl (by decide) (by decide) ?_
  refine g_dup dX7_init_354 rfl ?_
  refine g_bipush dX7_init_355 (v := 33) (by decide) ?_
  refine g_bipush dX7_init_357 (v := 114) (by decide) ?_
  refine g_iast (j := 33) dX7_init_359 rfl (vld_ma (by decide)) (by have z := hm; show 95 < mN M + 17; omega) rfl (by decide) (by decide) ?_
  refine g_dup dX7_init_360 rfl ?_
  refine g_bipush dX7_init_361 (v := 34) (by decide) ?_
  refine g_bipush dX7_init_363 (v := 115) (by decide) ?_
  refine g_iast (j := 34) dX7_init_365 rfl (vld_ma (by decide)) (by have z := hm; show 95 < mN M + 17; omega) rfl (by decide) (by decide) ?_
  refine g_dup dX7_init_366 rfl ?_
  refine g_bipush dX7_init_367 (v := 35) (by decide) ?_
  refine g_bipush dX7_init_369 (v := 32) (by decide) ?_
  refine g_iast (j := 35) dX7_init_371 rfl (vld_ma (by decide)) (by have z := hm; show 95 < mN M + 17; omega) rfl (by decide) (by decide) ?_
  refine g_dup dX7_init_372 rfl ?_
  refine g_bipush dX7_init_373 (v := 36) (by decide) ?_
  refine g_iconst dX7_init_375 (v := 0) (by decide) ?_
  refine g_iast (j := 36) dX7_init_376 rfl (vld_ma (by decide)) (by have z := hm; show 95 < mN M + 17; omega) rfl (by decide) (by decide) ?_
  refine g_dup dX7_init_377 rfl ?_
  refine g_bipush dX7_init_378 (v := 37) (by decide) ?_
  refine g_bipush dX7_init_380 (v := 98) (by decide) ?_
  refine g_iast (j := 37) dX7_init_382 rfl (vld_ma (by decide)) (by have z := hm; show 95 < mN M + 17; omega) rfl (by decide) (by decide) ?_
  refine g_dup dX7_init_383 rfl ?_
  refine g_bipush dX7_init_384 (v := 38) (by decide) ?_
  refine g_bipush dX7_init_386 (v := 97) (by decide) ?_
  refine g_iast (j := 38) dX7_init_388 rfl (vld_ma (by decide)) (by have z := hm; show 95 < mN M + 17; omega) rfl (by decide) (by decide) ?_
  refine g_dup dX7_init_389 rfl ?_
  refine g_bipush dX7_init_390 (v := 39) (by decide) ?_
  refine g_bipush dX7_init_392 (v := 114) (by decide) ?_
  refine g_iast (j := 39) dX7_init_394 rfl (vld_ma (by decide)) (by have z := hm; show 95 < mN M + 17; omega) rfl (by decide) (by decide) ?_
  refine g_dup dX7_init_395 rfl ?_
  refine g_bipush dX7_init_396 (v := 40) (by decide) ?_
  refine g_bipush dX7_init_398 (v := 32) (by decide) ?_
  refine g_iast (j := 40) dX7_init_400 rfl (vld_ma (by decide)) (by have z := hm; show 95 < mN M + 17; omega) rfl (by decide) (by decide) ?_
  refine g_dup dX7_init_401 rfl ?_
  refine g_bipush dX7_init_402 (v := 41) (by decide) ?_
  refine g_iconst dX7_init_404 (v := 0) (by decide) ?_
  refine g_iast (j := 41) dX7_init_405 rfl (vld_ma (by decide)) (by have z := hm; show 95 < mN M + 17; omega) rfl (by decide) (by decide) ?_
  refine g_dup dX7_init_406 rfl ?_
  refine g_bipush dX7_init_407 (v := 42) (by decide) ?_
  refine g_bipush dX7_init_409 (v := 103) (by decide) ?_
  refine g_iast (j := 42) dX7_init_411 rfl (vld_ma (by decide)) (by have z := hm; show 95 < mN M + 17; omega) rfl (by decide) (by decide) ?_
  refine g_dup dX7_init_412 rfl ?_
  refine g_bipush dX7_init_413 (v := 43) (by decide) ?_
  refine g_bipush dX7_init_415 (v := 111) (by decide) ?_
  refine g_iast (j := 43) dX7_init_417 rfl (vld_ma (by decide)) (by have z := hm; show 95 < mN M + 17; omega) rfl (by decide) (by decide) ?_
  refine g_dup dX7_init_418 rfl ?_
  refine g_bipush dX7_init_419 (v := 44) (by decide) ?_
  refine g_bipush dX7_init_421 (v := 110) (by decide) ?_
  refine g_iast (j := 44) dX7_init_423 rfl (vld_ma (by decide)) (by have z := hm; show 95 < mN M + 17; omega) rfl (by decide) (by decide) ?_
  refine g_dup dX7_init_424 rfl ?_
  refine g_bipush dX7_init_425 (v := 45) (by decide) ?_
  refine g_bipush dX7_init_427 (v := 101) (by decide) ?_
  refine g_iast (j := 45) dX7_init_429 rfl (vld_ma (by decide)) (by have z := hm; show 95 < mN M + 17; omega) rfl (by decide) (by decide) ?_
  refine g_dup dX7_init_430 rfl ?_
  refine g_bipush dX7_init_431 (v := 46) (by decide) ?_
  refine g_bipush dX7_init_433 (v := 32) (by decide) ?_
  refine g_iast (j := 46) dX7_init_435 rfl (vld_ma (by decide)) (by have z := hm; show 95 < mN M + 17; omega) rfl (by decide) (by decide) ?_
  refine g_dup dX7_init_436 rfl ?_
  refine g_bipush dX7_init_437 (v := 47) (by decide) ?_
  refine g_iconst dX7_init_439 (v := 0) (by decide) ?_
  refine g_iast (j := 47) dX7_init_440 rfl (vld_ma (by decide)) (by have z := hm; show 95 < mN M + 17; omega) rfl (by decide) (by decide) ?_
  refine g_putR (b := (21, 16, 0)) dX7_init_441 fX7_75 rfl (hcls (by decide +kernel)) rfl vld_x20 (by have z := hm; show 78 < mN M + 17; omega) rfl ?_
  refine g_aloadR_n dX7_init_444 rfl rfl ?_
  refine g_bipush dX7_init_445 (v := 7) (by decide) ?_
  refine g_newI (a := (21, 17, 0)) (n := 7) dX7_init_447 rfl rfl (vld_ma (by decide)) (by have z := hm; show 96 = mN M + 17; omega) acI (Nat.le_of_ble_eq_true rfl) (Nat.le_of_ble_eq_true rfl) (Nat.le_of_ble_eq_true rfl) ?_
  refine g_dup dX7_init_449 rfl ?_
  refine g_iconst dX7_init_450 (v := 0) (by decide) ?_
  refine g_iconst dX7_init_451 (v := 4) (by decide) ?_
  refine g_iast (j := 0) dX7_init_452 rfl (vld_ma (by decide)) (by have z := hm; show 96 < mN M + 18; omega) rfl (by decide) (by decide) ?_
  refine g_dup dX7_init_453 rfl ?_
  refine g_iconst dX7_init_454 (v := 1) (by decide) ?_
  refine g_iconst dX7_init_455 (v := 2) (by decide) ?_
  refine g_iast (j := 1) dX7_init_456 rfl (vld_ma (by decide)) (by have z := hm; show 96 < mN M + 18; omega) rfl (by decide) (by decide) ?_
  refine g_dup dX7_init_457 rfl ?_
  refine g_iconst dX7_init_458 (v := 2) (by decide) ?_
  refine g_iconst dX7_init_459 (v := 1) (by decide) ?_
  refine g_iast (j := 2) dX7_init_460 rfl (vld_ma (by decide)) (by have z := hm; show 96 < mN M + 18; omega) rfl (by decide) (by decide) ?_
  refine g_dup dX7_init_461 rfl ?_
  refine g_iconst dX7_init_462 (v := 3) (by decide) ?_
  refine g_iconst dX7_init_463 (v := 1) (by decide) ?_
  refine g_iast (j := 3) dX7_init_464 rfl (vld_ma (by decide)) (by have z := hm; show 96 < mN M + 18; omega) rfl (by decide) (by decide) ?_
  refine g_dup dX7_init_465 rfl ?_
  refine g_iconst dX7_init_466 (v := 4) (by decide) ?_
  refine g_iconst dX7_init_467 (v := 1) (by decide) ?_
  refine g_iast (j := 4) dX7_init_468 rfl (vld_ma (by decide)) (by have z := hm; show 96 < mN M + 18; omega) rfl (by decide) (by decide) ?_
  refine g_dup dX7_init_469 rfl ?_
  refine g_iconst dX7_init_470 (v := 5) (by decide) ?_
  refine g_iconst dX7_init_471 (v := 1) (by decide) ?_
  refine g_iast (j := 5) dX7_init_472 rfl (vld_ma (by decide)) (by have z := hm; show 96 < mN M + 18; omega) rfl (by decide) (by decide) ?_
  refine g_dup dX7_init_473 rfl ?_
  refine g_bipush dX7_init_474 (v := 6) (by decide) ?_
  refine g_iconst dX7_init_476 (v := 1) (by decide) ?_
  refine g_iast (j := 6) dX7_init_477 rfl (vld_ma (by decide)) (by have z := hm; show 96 < mN M + 18; omega) rfl (by decide) (by decide) ?_
  refine g_putR (b := (21, 17, 0)) dX7_init_478 fX7_78 rfl (hcls (by decide +kernel)) rfl vld_x20 (by have z := hm; show 78 < mN M + 18; omega) rfl ?_
  refine g_aloadR_n dX7_init_481 rfl rfl ?_
  refine g_iconst dX7_init_482 (v := 4) (by decide) ?_
  refine g_newI (a := (21, 18, 0)) (n := 4) dX7_init_483 rfl rfl (vld_ma (by decide)) (by have z := hm; show 97 = mN M + 18; omega) acI (Nat.le_of_ble_eq_true rfl) (Nat.le_of_ble_eq_true rfl) (Nat.le_of_ble_eq_true rfl) ?_
  refine g_dup dX7_init_485 rfl ?_
  refine g_iconst dX7_init_486 (v := 0) (by decide) ?_
  refine g_bipush dX7_init_487 (v := 6) (by decide) ?_
  refine g_iast (j := 0) dX7_init_489 rfl (vld_ma (by decide)) (by have z := hm; show 97 < mN M + 19; omega) rfl (by decide) (by decide) ?_
  refine g_dup dX7_init_490 rfl ?_
  refine g_iconst dX7_init_491 (v := 1) (by decide) ?_
  refine g_bipush dX7_init_492 (v := 9) (by decide) ?_
  refine g_iast (j := 1) dX7_init_494 rfl (vld_ma (by decide)) (by have z := hm; show 97 < mN M + 19; omega) rfl (by decide) (by decide) ?_
  refine g_dup dX7_init_495 rfl ?_
  refine g_iconst dX7_init_496 (v := 2) (by decide) ?_
  refine g_bipush dX7_init_497 (v := 20) (by decide) ?_
  refine g_iast (j := 2) dX7_init_499 rfl (vld_ma (by decide)) (by have z := hm; show 97 < mN M + 19; omega) rfl (by decide) (by decide) ?_
  refine g_dup dX7_init_500 rfl ?_
  refine g_iconst dX7_init_501 (v := 3) (by decide) ?_
  refine g_iconst dX7_init_502 (v := 1) (by decide) ?_
  refine g_iast (j := 3) dX7_init_503 rfl (vld_ma (by decide)) (by have z := hm; show 97 < mN M + 19; omega) rfl (by decide) (by decide) ?_
  refine g_putR (b := (21, 18, 0)) dX7_init_504 fX7_81 rfl (hcls (by decide +kernel)) rfl vld_x20 (by have z := hm; show 78 < mN M + 19; omega) rfl ?_
  refine g_aloadR_n dX7_init_507 rfl rfl ?_
  refine g_iconst dX7_init_508 (v := 4) (by decide) ?_
  refine g_newI (a := (21, 19, 0)) (n := 4) dX7_init_509 rfl rfl (vld_ma (by decide)) (by have z := hm; show 98 = mN M + 19; omega) acI (Nat.le_of_ble_eq_true rfl) (Nat.le_of_ble_eq_true rfl) (Nat.le_of_ble_eq_true rfl) ?_
  refine g_putR (b := (21, 19, 0)) dX7_init_511 fX7_84 rfl (hcls (by decide +kernel)) rfl vld_x20 (by have z := hm; show 78 < mN M + 20; omega) rfl ?_
  refine g_aloadR_n dX7_init_514 rfl rfl ?_
  refine g_bipush dX7_init_515 (v := 100) (by decide) ?_
  refine g_newI (a := (21, 20, 0)) (n := 100) dX7_init_517 rfl rfl (vld_ma (by decide)) (by have z := hm; show 99 = mN M + 20; omega) acI (Nat.le_of_ble_eq_true rfl) (Nat.le_of_ble_eq_true rfl) (Nat.le_of_ble_eq_true rfl) ?_
  refine g_putR (b := (21, 20, 0)) dX7_init_519 fX7_87 rfl (hcls (by decide +kernel)) rfl vld_x20 (by have z := hm; show 78 < mN M + 21; omega) rfl ?_
  refine g_aloadR_n dX7_init_522 rfl rfl ?_
  refine g_bipush dX7_init_523 (v := 100) (by decide) ?_
  refine g_newI (a := (21, 21, 0)) (n := 100) dX7_init_525 rfl rfl (vld_ma (by decide)) (by have z := hm; show 100 = mN M + 21; omega) acI (Nat.le_of_ble_eq_true rfl) (Nat.le_of_ble_eq_true rfl) (Nat.le_of_ble_eq_true rfl) ?_
  refine g_putR (b := (21, 21, 0)) dX7_init_527 fX7_90 rfl (hcls (by decide +kernel)) rfl vld_x20 (by have z := hm; show 78 < mN M + 22; omega) rfl ?_
  refine g_aloadR_n dX7_init_530 rfl rfl ?_
  refine g_bipush dX7_init_531 (v := 100) (by decide) ?_
  refine g_newI (a := (21, 22, 0)) (n := 100) dX7_init_533 rfl rfl (vld_ma (by decide)) (by have z := hm; show 101 = mN M + 22; omega) acI (Nat.le_of_ble_eq_true rfl) (Nat.le_of_ble_eq_true rfl) (Nat.le_of_ble_eq_true rfl) ?_
  refine g_putR (b := (21, 22, 0)) dX7_init_535 fX7_93 rfl (hcls (by decide +kernel)) rfl vld_x20 (by have z := hm; show 78 < mN M + 23; omega) rfl ?_
  refine g_aloadR_n dX7_init_538 rfl rfl ?_
  refine g_bipush dX7_init_539 (v := 10) (by decide) ?_
  refine g_newI (a := (21, 23, 0)) (n := 10) dX7_init_541 rfl rfl (vld_ma (by decide)) (by have z := hm; show 102 = mN M + 23; omega) acI (Nat.le_of_ble_eq_true rfl) (Nat.le_of_ble_eq_true rfl) (Nat.le_of_ble_eq_true rfl) ?_
  refine g_putR (b := (21, 23, 0)) dX7_init_543 fX7_96 rfl (hcls (by decide +kernel)) rfl vld_x20 (by have z := hm; show 78 < mN M + 24; omega) rfl ?_
  refine g_aloadR_n dX7_init_546 rfl rfl ?_
  refine g_bipush dX7_init_547 (v := 20) (by decide) ?_
  refine g_newI (a := (21, 24, 0)) (n := 20) dX7_init_549 rfl rfl (vld_ma (by decide)) (by have z := hm; show 103 = mN M + 24; omega) acI (Nat.le_of_ble_eq_true rfl) (Nat.le_of_ble_eq_true rfl) (Nat.le_of_ble_eq_true rfl) ?_
  refine g_putR (b := (21, 24, 0)) dX7_init_551 fX7_99 rfl (hcls (by decide +kernel)) rfl vld_x20 (by have z := hm; show 78 < mN M + 25; omega) rfl ?_
  refine g_vret dX7_init_554 rfl ?_
  exact h
