/-! THE LAW'S LOOP AND ITS ENTRY -/
theorem w_31 (w : Int32) : ∃ c, c < 32 ∧ w &&& 31 = nI c := by
  have h : ∀ v : BitVec 32, (v &&& 31#32).toNat < 32 := fun v => by
    rw [BitVec.toNat_and]
    exact Nat.lt_of_le_of_lt Nat.and_le_right (by decide)
  refine ⟨(w.toBitVec &&& 31#32).toNat, h _, ?_⟩
  apply Int32.toBitVec_inj.mp
  apply BitVec.eq_of_toNat_eq
  rw [Int32.toBitVec_and]
  show (w.toBitVec &&& 31#32).toNat = (BitVec.ofNat 32 (w.toBitVec &&& 31#32).toNat).toNat
  rw [BitVec.toNat_ofNat, Nat.mod_eq_of_lt (Nat.lt_of_lt_of_le (h _) (by decide))]
theorem head_lt {i L9 : Nat} (hi : i ≤ 4000) (hL : L9 ≤ 3072) : (nI L9 - 6 < nI i) ↔ ¬ i + 6 ≤ L9 := by
  have e1 := nI_toInt (n := i) (by omega)
  have e2 := nI_toInt (n := L9) (by omega)
  rw [Int32.lt_iff_toInt_lt, i_sub' (by rw [e2]; omega) (by rw [e2]; omega) (by decide) (by decide), e1, e2]
  show (L9 : Int) - 6 < (i : Int) ↔ _
  omega
section LE
variable {x : xC} {b0 L9 : Nat} {xs9 : Nat → Int32}
set_option maxHeartbeats 4000000 in
set_option maxRecDepth 100000 in
theorem lw_switch (C : Lw x b0 L9 xs9) {k n i T kp : Nat} {r : Rw} {qs : Nat → Rw} {σ : xS} {τ : xT} {Z : State → Prop} (hi : i + 6 ≤ L9) (hT : T ≤ 40000) (S : LwS σ T r kp qs) (hkn : k + 1 ≤ 601024 ∧ n + 6 ≤ 7293034) (kk : ∀ (σ' : xS) (τ' : xT) (r' : Rw) (kp' : Nat) (qs' : Nat → Rw), LwS σ' (T + 60) r' kp' qs' → Yw x b0 1969 (LB i) [] σ' τ' (k + 1) (n + 6) Z) : ∀ (c : Nat), c < 32 → Yw x b0 40 (LB i) [.int (nI c)] σ τ k n Z := by
  have out : ∀ c : Nat, 27 < (nI c).toInt → Yw x b0 40 (LB i) [.int (nI c)] σ τ k n Z := by
    intro c hc
    refine yw_tableOut C dL_law_40 (t := 1969) (Or.inr hc) rfl ?_
    obtain ⟨hR, hRc, hM, hRM, hk, hOk, hOq⟩ := S
    exact yw_widen (Nat.le_succ k) (Nat.le_add_right n 6) (kk _ _ _ _ _ ⟨hR, hRc, hM, hRM, hk, hOk.mono (by omega), fun j hj => (hOq j hj).mono (by omega)⟩)
  intro c hc
  match c, hc with
  | 0, _ => exact yw_tableIn C dL_law_40 (by decide) (by decide) (o := 128) rfl (t := 168) rfl (lc_begin C hi hT S hkn kk)
  | 1, _ => exact yw_tableIn C dL_law_40 (by decide) (by decide) (o := 184) rfl (t := 224) rfl (lc_setDoor C hi hT S hkn kk)
  | 2, _ => exact yw_tableIn C dL_law_40 (by decide) (by decide) (o := 287) rfl (t := 327) rfl (lc_isOpen C hi hT S hkn kk)
  | 3, _ => exact yw_tableIn C dL_law_40 (by decide) (by decide) (o := 362) rfl (t := 402) rfl (lc_addFuel C hi hT S hkn kk)
  | 4, _ => exact yw_tableIn C dL_law_40 (by decide) (by decide) (o := 418) rfl (t := 458) rfl (lc_setTarget C hi hT S hkn kk)
  | 5, _ => exact yw_tableIn C dL_law_40 (by decide) (by decide) (o := 474) rfl (t := 514) rfl (lc_set C hi hT S hkn kk)
  | 6, _ => exact yw_tableIn C dL_law_40 (by decide) (by decide) (o := 542) rfl (t := 582) rfl (lc_setSmoke C hi hT S hkn kk)
  | 7, _ => exact yw_tableIn C dL_law_40 (by decide) (by decide) (o := 610) rfl (t := 650) rfl (lc_info C hi hT S hkn kk)
  | 8, _ => exact yw_tableIn C dL_law_40 (by decide) (by decide) (o := 666) rfl (t := 706) rfl (lc_room C hi hT S hkn kk)
  | 9, _ => exact yw_tableIn C dL_law_40 (by decide) (by decide) (o := 734) rfl (t := 774) rfl (lc_addSensor C hi hT S hkn kk)
  | 10, _ => exact yw_tableIn C dL_law_40 (by decide) (by decide) (o := 838) rfl (t := 878) rfl (lc_setFault C hi hT S hkn kk)
  | 11, _ => exact yw_tableIn C dL_law_40 (by decide) (by decide) (o := 906) rfl (t := 946) rfl (lc_sensor C hi hT S hkn kk)
  | 12, _ => exact yw_tableIn C dL_law_40 (by decide) (by decide) (o := 974) rfl (t := 1014) rfl (lc_addRule C hi hT S hkn kk)
  | 13, _ => exact yw_tableIn C dL_law_40 (by decide) (by decide) (o := 1066) rfl (t := 1106) rfl (lc_removeRule C hi hT S hkn kk)
  | 14, _ => exact yw_tableIn C dL_law_40 (by decide) (by decide) (o := 1122) rfl (t := 1162) rfl (lc_applying C hi hT S hkn kk)
  | 15, _ => exact yw_tableIn C dL_law_40 (by decide) (by decide) (o := 1135) rfl (t := 1175) rfl (lc_addEvent C hi hT S hkn kk)
  | 16, _ => exact yw_tableIn C dL_law_40 (by decide) (by decide) (o := 1227) rfl (t := 1267) rfl (lc_event C hi hT S hkn kk)
  | 17, _ => exact yw_tableIn C dL_law_40 (by decide) (by decide) (o := 1295) rfl (t := 1335) rfl (lc_mute C hi hT S hkn kk)
  | 18, _ => exact yw_tableIn C dL_law_40 (by decide) (by decide) (o := 1363) rfl (t := 1403) rfl (lc_pass C hi hT S hkn kk)
  | 19, _ => exact yw_tableIn C dL_law_40 (by decide) (by decide) (o := 1419) rfl (t := 1459) rfl (lc_told C hi hT S hkn kk)
  | 20, _ => exact yw_tableIn C dL_law_40 (by decide) (by decide) (o := 1475) rfl (t := 1515) rfl (lc_alarmIn C hi hT S hkn kk)
  | 21, _ => exact yw_tableIn C dL_law_40 (by decide) (by decide) (o := 1543) rfl (t := 1583) rfl (lc_smokeAfter C hi hT S hkn kk)
  | 22, _ => exact yw_tableIn C dL_law_40 (by decide) (by decide) (o := 1611) rfl (t := 1651) rfl (lc_peak C hi hT S hkn kk)
  | 23, _ => exact yw_tableIn C dL_law_40 (by decide) (by decide) (o := 1691) rfl (t := 1731) rfl (lc_bestOpening C hi hT S hkn kk)
  | 24, _ => exact yw_tableIn C dL_law_40 (by decide) (by decide) (o := 1747) rfl (t := 1787) rfl (lc_neededSensors C hi hT S hkn kk)
  | 25, _ => exact yw_tableIn C dL_law_40 (by decide) (by decide) (o := 1815) rfl (t := 1855) rfl (lc_burnsFor C hi hT S hkn kk)
  | 26, _ => exact yw_tableIn C dL_law_40 (by decide) (by decide) (o := 1871) rfl (t := 1911) rfl (lc_undo C hi hT S hkn kk)
  | 27, _ => exact yw_tableIn C dL_law_40 (by decide) (by decide) (o := 1915) rfl (t := 1955) rfl (lc_checksum C hi hT S hkn kk)
  | 28, _ => exact out 28 (by decide)
  | 29, _ => exact out 29 (by decide)
  | 30, _ => exact out 30 (by decide)
  | 31, _ => exact out 31 (by decide)
  | c + 32, hc => exact absurd hc (by omega)
set_option maxHeartbeats 4000000 in
set_option maxRecDepth 100000 in
theorem lw_loop (C : Lw x b0 L9 xs9) : ∀ (f j : Nat) (σ : xS) (τ : xT) (r : Rw) (kp : Nat) (qs : Nat → Rw), j + f = 512 → LwS σ (60 * j) r kp qs → Yw x b0 23 (LB (6 * j)) [] σ τ (171 + j) (2752 + 6 * j) (xEw x) := by
  have hL9 : L9 ≤ 3072 := by
    obtain ⟨p, l, e, R, s, m, args, below, meth, c, bs, D, cA⟩ := x
    obtain ⟨-, -, -, -, -, h, -⟩ := C
    exact h
  have fin : ∀ (j : Nat) (σ : xS) (τ : xT), j ≤ 512 → Yw x b0 1975 (LB (6 * j)) [] σ τ (171 + j) (2752 + 6 * j) (xEw x) := by
    intro j σ τ hj
    refine yw_iconst C dL_law_1975 (v := 1) rfl ?_
    exact yw_end C dL_law_1976 (by omega) (by omega)
  intro f
  induction f with
  | zero =>
    intro j σ τ r kp qs hf S
    refine yw_iload C dL_law_23 rfl ?_
    refine yw_len C dL_law_25 dL_law_26 ?_
    refine yw_bipush C dL_law_27 (v := 6) rfl ?_
    refine yw_isub C dL_law_29 ?_
    refine yw_icmp_gt C dL_law_30 (t := 1975) rfl (fun _ => fin j σ τ (by omega)) (fun h => absurd ((head_lt (by omega) hL9).mpr (by omega)) h)
  | succ f ih =>
    intro j σ τ r kp qs hf S
    refine yw_iload C dL_law_23 rfl ?_
    refine yw_len C dL_law_25 dL_law_26 ?_
    refine yw_bipush C dL_law_27 (v := 6) rfl ?_
    refine yw_isub C dL_law_29 ?_
    refine yw_icmp_gt C dL_law_30 (t := 1975) rfl (fun _ => fin j σ τ (by omega)) (fun h => ?_)
    have hi : 6 * j + 6 ≤ L9 := by
      rcases Nat.lt_or_ge L9 (6 * j + 6) with z | z
      · exact absurd ((head_lt (by omega) hL9).mpr (by omega)) h
      · exact z
    refine yw_scr0 C (i := 6 * j) dL_law_33 dL_law_34 dL_law_36 rfl (by omega) ?_
    refine yw_bipush C dL_law_37 (v := 31) rfl ?_
    refine yw_iand C dL_law_39 ?_
    obtain ⟨c, hc, ec⟩ := w_31 (xs9 (6 * j))
    rw [ec]
    refine lw_switch C hi (T := 60 * j) (by omega) S ⟨by omega, by omega⟩ (fun σ1 τ1 r1 kp1 qs1 S1 => ?_) c hc
    refine yw_iinc C dL_law_1969 (v := nI (6 * (j + 1))) (L' := LB (6 * (j + 1))) (by decide) rfl (by rw [show Int32.ofInt 6 = nI 6 from rfl, nI_add]; congr 1) rfl ?_
    refine yw_goto C dL_law_1972 (t := 23) rfl ?_
    exact ih (j + 1) σ1 τ1 r1 kp1 qs1 (by omega) (by rw [show 60 * (j + 1) = 60 * j + 60 by omega]; exact S1)
theorem LwS_first : LwS σF (60 * 0) (mBeg 2) 0 (fun _ => mBeg 2) := ⟨Rel_first, Rc_first, σF_166, RecM_first, by decide, ⟨2, 0, 0, 0, 0, Inv.beg (w := 2) (by decide) (by decide), Sk.beg 2, by decide⟩, fun j hj => absurd hj (Nat.not_lt_zero j)⟩
set_option maxRecDepth 100000 in
theorem le_words : Cond.classLink RL 8 RX8 ∈ wsL_law ∧ Cond.instantiable RX8 3 ∈ wsL_law ∧ Cond.initialized RX8 ∈ wsL_law ∧ Cond.methodLink RL 101 yX8_init ∈ wsL_law ∧ Cond.instanceMethod yX8_init ∈ wsL_law ∧ Cond.classLink RL 102 RX9 ∈ wsL_law ∧ Cond.instantiable RX9 7 ∈ wsL_law ∧ Cond.initialized RX9 ∈ wsL_law ∧ Cond.methodLink RL 104 yX9_init ∈ wsL_law ∧ Cond.instanceMethod yX9_init ∈ wsL_law ∧ Cond.arrayClass .long ∈ wsL_law := by decide +kernel
set_option maxHeartbeats 4000000 in
set_option maxRecDepth 100000 in
theorem lw_make (C : Lw x b0 L9 xs9) {Z : State → Prop} (kk : Yw x b0 23 (LB (6 * 0)) [] σF (fun _ _ => 0) 171 2752 Z) : Yq x b0 0 [none, none, none, none, none, none, none] [] (fun _ _ => 0) (fun _ _ => false) 0 0 0 Z := by
  obtain ⟨w1, w2, w3, w4, w5, w6, w7, w8, w9, w10, w11⟩ := le_words
  have z0 : Zr 0 (fun _ _ => 0) (fun _ _ => false) := fun k _ => ⟨fun _ => rfl, fun _ => rfl⟩
  refine q_new (N := 3) (Cn := RX8) (T := TX8) (ci := 8) C tyX8 dL_law_0 rfl rfl inlX8 tyX8_ok w1 w2 w3 (fun j hj => by rcases (show j = 0 ∨ j = 1 ∨ j = 2 by omega) with rfl | rfl | rfl <;> rfl) (fun i => rfl) (fun i => rfl) ⟨Nat.le_of_ble_eq_true rfl, Nat.le_of_ble_eq_true rfl⟩ ?_
  refine q_dup C dL_law_3 rfl ?_
  refine q_callI C (e_X8_init z0) dL_law_4 rfl gL_law_X8_init rfl w4 w3 w5 rfl qX8_init ⟨rfl, rfl⟩ ⟨Nat.le_of_ble_eq_true rfl, Nat.le_of_ble_eq_true rfl⟩ rfl (Nat.le_of_ble_eq_true rfl) ⟨Nat.le_of_ble_eq_true rfl, Nat.le_of_ble_eq_true rfl⟩ ?_
  refine q_astore_n C dL_law_7 (by decide) (by decide) rfl ?_
  have y1 : Zr 1 (fun _ _ => 0) (fun _ _ => false) := z0.up (by omega)
  have y2 : Zr 28 (wσ 1 (fun _ _ => 0)) (upp (wφ 1 (fun _ _ => false)) 0 0) := ((y1.up (b := 28) (by omega)).W (by omega)).upp (by omega)
  have y3 : Zr 55 (wσ 28 (wσ 1 (fun _ _ => 0))) (upp (wφ 28 (upp (wφ 1 (fun _ _ => false)) 0 0)) 0 1) := ((y2.up (b := 55) (by omega)).W (by omega)).upp (by omega)
  have z1 : Zr 165 (x8σ (fun _ _ => 0)) (x8φ (fun _ _ => false)) := (Zr.r4 y3 4).upp (by omega)
  refine q_new (N := 7) (Cn := RX9) (T := TX9) (ci := 9) C tyX9 dL_law_8 rfl rfl inlX9 tyX9_ok w6 w7 w8 (fun j hj => by rcases (show j = 0 ∨ j = 1 ∨ j = 2 ∨ j = 3 ∨ j = 4 ∨ j = 5 ∨ j = 6 by omega) with rfl | rfl | rfl | rfl | rfl | rfl | rfl <;> rfl) (fun i => (z1 _ (Nat.le_refl _)).1 i) (fun i => (z1 _ (Nat.le_refl _)).2 i) ⟨Nat.le_of_ble_eq_true rfl, Nat.le_of_ble_eq_true rfl⟩ ?_
  refine q_dup C dL_law_11 rfl ?_
  refine q_callI C (e_X9_init z1) dL_law_12 rfl gL_law_X9_init rfl w9 w8 w10 rfl qX9_init ⟨rfl, rfl⟩ ⟨Nat.le_of_ble_eq_true rfl, Nat.le_of_ble_eq_true rfl⟩ rfl (Nat.le_of_ble_eq_true rfl) ⟨Nat.le_of_ble_eq_true rfl, Nat.le_of_ble_eq_true rfl⟩ ?_
  refine q_astore_n C dL_law_15 (by decide) (by decide) rfl ?_
  refine q_iconst C dL_law_16 (v := nI 1) rfl ?_
  refine q_newl (N := 1) C dL_law_17 w11 (by decide) rfl (by decide) rfl ⟨Nat.le_of_ble_eq_true rfl, Nat.le_of_ble_eq_true rfl⟩ ?_
  refine q_astore_n C dL_law_19 (by decide) (by decide) rfl ?_
  refine q_iconst C dL_law_20 (v := nI 0) rfl ?_
  refine q_istore C dL_law_21 (by decide) (by decide) (L' := LB (6 * 0)) rfl ?_
  exact yq_yw kk
end LE
