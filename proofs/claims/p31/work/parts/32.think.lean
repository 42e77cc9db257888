/-! THOUGHTS, ON THE FACE -/
def mAIn (r : Rw) (i n : Nat) : Int32 := if mAlaI r i = 0 then mFaF i r 0 n else 0
def mBFo (r : Rw) (n : Nat) : Int32 := if r 8 = 0 then 0 else mBuF r 0 n
def mBe (r : Rw) (n : Nat) : Nat → Nat
  | 0 => 0
  | k + 1 => if mPk r 0 (nI (k + 1)) n < mPk r 0 (nI (mBe r n k)) n then k + 1 else mBe r n k
theorem mBe_le (r : Rw) (n : Nat) : ∀ k, mBe r n k ≤ k := by
  intro k
  induction k with
  | zero => exact Nat.le_refl _
  | succ k ih =>
    simp only [mBe]
    split <;> omega
def mNd (r : Rw) (i n : Nat) : Nat → Int32
  | 0 => 0
  | k + 1 => mNd r i n k ||| (if mFaF i (upd r (57 + 7 * k + 5) 1) 0 n = -1 then (1 : Int32) <<< (nI k &&& 31) else 0)
def mNee (r : Rw) (i n ns : Nat) : Int32 := if mFaF i r 0 n = -1 then 0 else mNd r i n ns
theorem o8 {o : Nat} (h : o ≤ 8) : (0 : Int32) ≤ nI o ∧ nI o ≤ 8 := by
  have hz : o = 0 ∨ o = 1 ∨ o = 2 ∨ o = 3 ∨ o = 4 ∨ o = 5 ∨ o = 6 ∨ o = 7 ∨ o = 8 := by omega
  rcases hz with rfl | rfl | rfl | rfl | rfl | rfl | rfl | rfl | rfl <;> decide
theorem w8 {v : Int32} (h : ¬ mWithI v 0 8 = 0) : 0 ≤ v ∧ v ≤ 8 := mWithI_ne.mp h
theorem le_0 {x : Int32} (h0 : 0 ≤ x) : x ≤ 0 ↔ x = 0 := ⟨fun h => Int32.le_antisymm h h0, fun h => by rw [h]; exact Int32.le_refl _⟩
theorem gd1_t {P : Prop} [Decidable P] (h : ¬ (if P then (1 : Int32) else 0) = 0) : P := by
  by_cases z : P
  · exact z
  · exact absurd (if_neg z) h
theorem gd1_f {P : Prop} [Decidable P] (h : (if P then (1 : Int32) else 0) = 0) : ¬ P := by
  intro z
  rw [if_pos z] at h
  exact absurd h (by decide)

set_option maxHeartbeats 4000000 in
set_option maxRecDepth 100000 in
theorem l_X8_pass {x : xC} (C : Cx x mX8_pass) (σ : xS) (τ : xT) {R ns nr nn : Nat} (hl : nn ≤ 1000000) (rf : Rw) (bf : Int32) {Z : State → Prop} (kx : ∀ (σ1 : xS), Rel σ1 1 rf → Fr (wS 1) σ σ1 → Y x 56 [some (.ref 0), some (.int (nI nn)), some (.int bf), some (.int (nI nn))] [] σ1 τ 0 0 Z) : ∀ n k : Nat, k + n = nn → ∀ (q : Rw) (e t1 : Nat) (b : Int32), Inv q R ns nr e t1 (t1 + 1) → Sk q → t1 + n ≤ 1000000 → mMinN q n = rf → mNewN q n b = bf → ∀ σ1 : xS, Rel σ1 1 q → Fr (wS 1) σ σ1 → Y x 35 [some (.ref 0), some (.int (nI nn)), some (.int b), some (.int (nI k))] [] σ1 τ 0 0 Z := by
  intro n
  induction n with
  | zero =>
    intro k hk
    intro q e t1 b Iq hsq ht1 hf hg σ1 hR1 hF1
    have hB : isW 1 := Or.inl rfl
    simp only [mMinN, mNewN] at hf hg
    refine y_iload_n C dX8_pass_35 rfl ?_
    refine y_iload_n C dX8_pass_36 rfl ?_
    refine y_icmp_ge (t := 56) C dX8_pass_37 (by decide) (fun c37 => ?_) (fun c37 => absurd (by rw [show k = nn by omega]; exact Int32.le_refl _) c37)
    obtain rfl : k = nn := by omega
    rw [hg]
    exact kx σ1 (hf ▸ hR1) hF1
  | succ n ih =>
    intro k hk
    intro q e t1 b Iq hsq ht1 hf hg σ1 hR1 hF1
    have hB : isW 1 := Or.inl rfl
    simp only [mMinN, mNewN] at hf hg
    refine y_iload_n C dX8_pass_35 rfl ?_
    refine y_iload_n C dX8_pass_36 rfl ?_
    refine y_icmp_ge (t := 56) C dX8_pass_37 (by decide) (fun c37 => absurd c37 (nI_ge (by omega) (by omega))) (fun c37 => ?_)
    refine y_iload_n C dX8_pass_40 rfl ?_
    refine y_aload_n C dX8_pass_41 rfl ?_
    refine g_X8_now C dX8_pass_42 (by decide +kernel) (by decide +kernel) ?_
    refine y_callVi C (e_X7_letMinutePass hB _ _ hR1 Iq hsq (by omega)) dX8_pass_45 rfl gX8_pass_X7_letMinutePass rfl (is_X7 hB) ⟨rfl, qX7_letMinutePass⟩ ⟨rfl, rfl⟩ ⟨Nat.le_of_ble_eq_true rfl, Nat.le_of_ble_eq_true rfl⟩ rfl (Nat.le_of_ble_eq_true rfl) ⟨Nat.zero_le _, Nat.zero_le _⟩ (fun v2 σ2 τ2 hq => ?_)
    obtain ⟨rfl, hR2, hF2, rfl⟩ := hq
    refine y_iadd C dX8_pass_48 ?_
    refine y_istore_n C dX8_pass_49 (L' := [_, _, _, _]) (Nat.lt_of_lt_of_le (by decide : (2 : Nat) < 4) (Nat.le_refl _)) rfl ?_
    refine y_iinc C dX8_pass_50 (L' := [_, _, _, _]) rfl (nI_1 k) rfl ?_
    refine y_goto (t := 35) C dX8_pass_53 (by decide) ?_
    exact ih (k + 1) (by omega) (mMin q) (e - mDue (upd q 7 (q 7 + 1))) (t1 + 1) _ (Iq.min hsq (by omega)) (Sk.min Iq hsq (by omega)) (by omega) hf hg σ2 hR2 (hF1.trans hF2)
set_option maxHeartbeats 4000000 in
set_option maxRecDepth 100000 in
theorem e_X8_pass (σ : xS) (τ : xT) {r : Rw} {R ns nr ne t kp : Nat} {qs : Nat → Rw} (hR : Rel σ 1 r) (hC : Rc σ kp qs) (hk : kp ≤ 4) (I : Inv r R ns nr ne t (t + 1)) (hs : Sk r) (ht : t + 200 ≤ 1000000) (u : Int32) : Zi mX8_pass [.ref 0, .int u] σ τ (fun v σ1 τ1 => kW u 1 60 = 0 ∧ v = (mNewN r (cN u) 0) ∧ Cl σ σ1 τ τ1 (mMinN r (cN u)) (kK kp) (kQ kp qs r)) (fun E => E = eIA ∧ kW u 1 60 = 1) := by
  have hB : isW 1 := Or.inl rfl
  have hR4 := I.1.1.2
  have hs8 := I.1.2.1.2
  have hr8 := I.1.2.2.1.2
  have he20 := I.1.2.2.2.1.2
  refine Zi_mk (L := [some (.ref 0), some (.int u), none, none]) (by decide) rfl (Nat.le_of_ble_eq_true rfl) rfl (fun x C0 => ?_)
  have C := C0.1
  refine y_iload_n C dX8_pass_0 rfl ?_
  refine y_iconst (v := 1) C dX8_pass_1 (by decide) ?_
  refine y_bipush (v := 60) C dX8_pass_2 (by decide) ?_
  refine y_callSi C (e_X8_isWithin _ _ _ _ _) dX8_pass_4 rfl gX8_pass_X8_isWithin rfl qX8_isWithin ⟨rfl, rfl⟩ ⟨Nat.le_of_ble_eq_true rfl, Nat.le_of_ble_eq_true rfl⟩ rfl (Nat.le_of_ble_eq_true rfl) ⟨Nat.zero_le _, Nat.zero_le _⟩ (fun v1 σ1 τ1 hq => ?_)
  obtain ⟨rfl, rfl, rfl⟩ := hq
  refine y_if_ne (t := 20) C dX8_pass_7 (by decide) (fun c7 => ?_) (fun c7 => ?_)
  · -- t
    obtain ⟨w, hw1, hw, rfl⟩ := with1 60 (by decide) rfl c7
    rw [cN_nI (n := w) (by omega)]
    refine y_aload_n C dX8_pass_20 rfl ?_
    refine g_X8_records C dX8_pass_21 (by decide +kernel) (by decide +kernel) ?_
    refine y_aload_n C dX8_pass_24 rfl ?_
    refine g_X8_now C dX8_pass_25 (by decide +kernel) (by decide +kernel) ?_
    refine y_callVv C (e_keepZ _ _ hk hC hR I.jam) dX8_pass_28 rfl gX8_pass_X4_keep rfl (is_X4) ⟨rfl, qX4_keep⟩ ⟨rfl, rfl⟩ ⟨Nat.le_of_ble_eq_true rfl, Nat.le_of_ble_eq_true rfl⟩ rfl (Nat.le_of_ble_eq_true rfl) ⟨Nat.zero_le _, Nat.zero_le _⟩ (fun σ2 τ2 hq => ?_)
    obtain ⟨hC2, hR2, hF2, rfl⟩ := hq
    refine y_iconst (v := 0) C dX8_pass_31 (by decide) ?_
    refine y_istore_n C dX8_pass_32 (L' := [_, _, _, _]) (Nat.lt_of_lt_of_le (by decide : (2 : Nat) < 4) (Nat.le_refl _)) rfl ?_
    refine y_iconst (v := 0) C dX8_pass_33 (by decide) ?_
    refine y_istore_n C dX8_pass_34 (L' := [_, _, _, _]) (Nat.lt_of_lt_of_le (by decide : (3 : Nat) < 4) (Nat.le_refl _)) rfl ?_
    refine l_X8_pass C σ2 τ (by omega) (mMinN r w) (mNewN r w 0) (fun σ3 hR3 hF3 => ?_) w 0 (Nat.zero_add _) r ne t 0 I hs (by omega) rfl rfl σ2 hR2 Fr.rf
    refine y_iload_n C dX8_pass_56 rfl ?_
    exact z_iret C rfl dX8_pass_57 (⟨by unfold kW; rw [if_neg c7], rfl, hR3, hC2.k1 hF3, (hF2.mono cS_r).trans (hF3.mono cS_1), rfl⟩)
  · -- f
    exact z_thr C0 rfl (ik := 30) (ic := 34) (cls := eIA) (by decide) twX8_pass_a (is := 228) (text := "n is not 1 to 60") (by decide +kernel) dX8_pass_10 dX8_pass_13 dX8_pass_14 dX8_pass_16 dX8_pass_19 ⟨Nat.le_of_ble_eq_true rfl, Nat.le_of_ble_eq_true rfl, Nat.le_refl _, Nat.le_refl _⟩ rfl (⟨rfl, by unfold kW; rw [if_pos c7]⟩)
set_option maxHeartbeats 4000000 in
set_option maxRecDepth 100000 in
theorem e_X8_alarmIn (σ : xS) (τ : xT) {r : Rw} {R ns nr ne t kp : Nat} {qs : Nat → Rw} (hR : Rel σ 1 r) (hC : Rc σ kp qs) (hk : kp ≤ 4) (I : Inv r R ns nr ne t (t + 1)) (hs : Sk r) (ht : t + 200 ≤ 1000000) (u v : Int32) : Zi mX8_alarmIn [.ref 0, .int u, .int v] σ τ (fun y σ1 τ1 => kRW r u v 1 200 = 0 ∧ y = (mAIn r (cN u) (cN v)) ∧ Cl σ σ1 τ τ1 (r) (kp) (qs)) (fun E => (E = eIO ∧ kRW r u v 1 200 = 1) ∨ (E = eIA ∧ kRW r u v 1 200 = 2)) := by
  have hB : isW 1 := Or.inl rfl
  have hR4 := I.1.1.2
  have hs8 := I.1.2.1.2
  have hr8 := I.1.2.2.1.2
  have he20 := I.1.2.2.2.1.2
  have hB2 : isW 28 := Or.inr (Or.inl rfl)
  have hBB : 28 + 27 ≤ 1 ∨ 1 + 27 ≤ 28 := Or.inr (by decide)
  refine Zi_mk (L := [some (.ref 0), some (.int u), some (.int v)]) (by decide) rfl (Nat.le_of_ble_eq_true rfl) rfl (fun x C0 => ?_)
  have C := C0.1
  refine y_aload_n C dX8_alarmIn_0 rfl ?_
  refine g_X8_now C dX8_alarmIn_1 (by decide +kernel) (by decide +kernel) ?_
  refine g_X7_house C hB dX8_alarmIn_4 (by decide +kernel) (by decide +kernel) ?_
  refine y_iload_n C dX8_alarmIn_7 rfl ?_
  refine y_callVi C (e_X3_isRoom hB _ _ hR _) dX8_alarmIn_8 rfl gX8_alarmIn_X3_isRoom rfl (is_X3 hB) ⟨rfl, qX3_isRoom⟩ ⟨rfl, rfl⟩ ⟨Nat.le_of_ble_eq_true rfl, Nat.le_of_ble_eq_true rfl⟩ rfl (Nat.le_of_ble_eq_true rfl) ⟨Nat.zero_le _, Nat.zero_le _⟩ (fun v1 σ1 τ1 hq => ?_)
  obtain ⟨rfl, rfl, rfl⟩ := hq
  refine y_if_ne (t := 24) C dX8_alarmIn_11 (by decide) (fun c11 => ?_) (fun c11 => ?_)
  · -- t
    refine y_iload_n C dX8_alarmIn_24 rfl ?_
    refine y_iconst (v := 1) C dX8_alarmIn_25 (by decide) ?_
    refine y_sipush (v := 200) C dX8_alarmIn_26 (by decide) ?_
    refine y_callSi C (e_X8_isWithin _ _ _ _ _) dX8_alarmIn_29 rfl gX8_alarmIn_X8_isWithin rfl qX8_isWithin ⟨rfl, rfl⟩ ⟨Nat.le_of_ble_eq_true rfl, Nat.le_of_ble_eq_true rfl⟩ rfl (Nat.le_of_ble_eq_true rfl) ⟨Nat.zero_le _, Nat.zero_le _⟩ (fun v1 σ1 τ1 hq => ?_)
    obtain ⟨rfl, rfl, rfl⟩ := hq
    refine y_if_ne (t := 45) C dX8_alarmIn_32 (by decide) (fun c32 => ?_) (fun c32 => ?_)
    · -- t
      obtain ⟨i, hi, rfl⟩ := room_of I c11
      obtain ⟨w, hw1, hw, rfl⟩ := with1 200 (by decide) rfl c32
      rw [cN_nI (n := i) (by omega), cN_nI (n := w) (by omega)]
      refine y_aload_n C dX8_alarmIn_45 rfl ?_
      refine g_X8_now C dX8_alarmIn_46 (by decide +kernel) (by decide +kernel) ?_
      refine g_X7_alarms C hB dX8_alarmIn_49 (by decide +kernel) (by decide +kernel) ?_
      refine y_iload_n C dX8_alarmIn_52 rfl ?_
      refine y_callVi C (e_X0_soundsIn hB _ _ hR i (by omega)) dX8_alarmIn_53 rfl gX8_alarmIn_X0_soundsIn rfl (is_X0 hB) ⟨rfl, qX0_soundsIn⟩ ⟨rfl, rfl⟩ ⟨Nat.le_of_ble_eq_true rfl, Nat.le_of_ble_eq_true rfl⟩ rfl (Nat.le_of_ble_eq_true rfl) ⟨Nat.zero_le _, Nat.zero_le _⟩ (fun v1 σ1 τ1 hq => ?_)
      obtain ⟨rfl, rfl, rfl⟩ := hq
      refine y_if_eq (t := 61) C dX8_alarmIn_56 (by decide) (fun c56 => ?_) (fun c56 => ?_)
      · -- t
        refine y_aload_n C dX8_alarmIn_61 rfl ?_
        refine g_X8_thought C dX8_alarmIn_62 (by decide +kernel) (by decide +kernel) ?_
        refine y_aload_n C dX8_alarmIn_65 rfl ?_
        refine g_X8_now C dX8_alarmIn_66 (by decide +kernel) (by decide +kernel) ?_
        refine y_callVv C (e_copy hB2 hB hBB _ _ hR I.jam) dX8_alarmIn_69 rfl gX8_alarmIn_X7_copyFrom rfl (is_X7 hB2) ⟨rfl, qX7_copyFrom⟩ ⟨rfl, rfl⟩ ⟨Nat.le_of_ble_eq_true rfl, Nat.le_of_ble_eq_true rfl⟩ rfl (Nat.le_of_ble_eq_true rfl) ⟨Nat.zero_le _, Nat.zero_le _⟩ (fun σ2 τ2 hq => ?_)
        obtain ⟨hR2, hF2, rfl⟩ := hq
        refine y_aload_n C dX8_alarmIn_72 rfl ?_
        refine y_iload_n C dX8_alarmIn_73 rfl ?_
        refine y_iload_n C dX8_alarmIn_74 rfl ?_
        refine y_callVi C (e_X8_firstAlarm _ _ hR2 I hs i w hi (by omega)) dX8_alarmIn_75 rfl gX8_alarmIn_X8_firstAlarm rfl (is_X8) ⟨rfl, qX8_firstAlarm⟩ ⟨rfl, rfl⟩ ⟨Nat.le_of_ble_eq_true rfl, Nat.le_of_ble_eq_true rfl⟩ rfl (Nat.le_of_ble_eq_true rfl) ⟨Nat.zero_le _, Nat.zero_le _⟩ (fun v3 σ3 τ3 hq => ?_)
        obtain ⟨rfl, hF3, rfl⟩ := hq
        have hF9 := hF2.trans hF3
        exact z_iret C rfl dX8_alarmIn_78 (⟨by unfold kRW; rw [if_neg c11, if_neg c32], by unfold mAIn; rw [if_pos c56], ⟨hR.k28 hF9, hC.k28 hF9, hF9.mono cS_28, rfl⟩⟩)
      · -- f
        refine y_iconst (v := 0) C dX8_alarmIn_59 (by decide) ?_
        exact z_iret C rfl dX8_alarmIn_60 (⟨by unfold kRW; rw [if_neg c11, if_neg c32], by unfold mAIn; rw [if_neg c56], ⟨hR, hC, Fr.rf, rfl⟩⟩)
    · -- f
      exact z_thr C0 rfl (ik := 30) (ic := 34) (cls := eIA) (by decide) twX8_alarmIn_a (is := 236) (text := "limit is not 1 to 200") (by decide +kernel) dX8_alarmIn_35 dX8_alarmIn_38 dX8_alarmIn_39 dX8_alarmIn_41 dX8_alarmIn_44 ⟨Nat.le_of_ble_eq_true rfl, Nat.le_of_ble_eq_true rfl, Nat.le_refl _, Nat.le_refl _⟩ rfl (Or.inr ⟨rfl, by unfold kRW; rw [if_neg c11, if_pos c32]⟩)
  · -- f
    exact z_thr C0 rfl (ik := 59) (ic := 63) (cls := eIO) (by decide) twX8_alarmIn_b (is := 61) (text := "there is no such room") (by decide +kernel) dX8_alarmIn_14 dX8_alarmIn_17 dX8_alarmIn_18 dX8_alarmIn_20 dX8_alarmIn_23 ⟨Nat.le_of_ble_eq_true rfl, Nat.le_of_ble_eq_true rfl, Nat.le_refl _, Nat.le_refl _⟩ rfl (Or.inl ⟨rfl, by unfold kRW; rw [if_pos c11]⟩)
set_option maxHeartbeats 4000000 in
set_option maxRecDepth 100000 in
theorem l_X8_smokeAfter {x : xC} (C : Cx x mX8_smokeAfter) (σ : xS) (τ : xT) {R ns nr nn : Nat} (hl : nn ≤ 1000000) (rf : Rw) (u : Int32) {Z : State → Prop} (kx : ∀ (σ1 : xS), Rel σ1 28 rf → Fr (wS 28) σ σ1 → Y x 77 [some (.ref 0), some (.int u), some (.int (nI nn)), some (.int (nI nn))] [] σ1 τ 0 0 Z) : ∀ n k : Nat, k + n = nn → ∀ (q : Rw) (e t1 : Nat), Inv q R ns nr e t1 (t1 + 1) → Sk q → t1 + n ≤ 1000000 → mMinN q n = rf → ∀ σ1 : xS, Rel σ1 28 q → Fr (wS 28) σ σ1 → Y x 58 [some (.ref 0), some (.int u), some (.int (nI nn)), some (.int (nI k))] [] σ1 τ 0 0 Z := by
  intro n
  induction n with
  | zero =>
    intro k hk
    intro q e t1 Iq hsq ht1 hf σ1 hR1 hF1
    have hB : isW 28 := Or.inr (Or.inl rfl)
    simp only [mMinN] at hf
    refine y_iload_n C dX8_smokeAfter_58 rfl ?_
    refine y_iload_n C dX8_smokeAfter_59 rfl ?_
    refine y_icmp_ge (t := 77) C dX8_smokeAfter_60 (by decide) (fun c60 => ?_) (fun c60 => absurd (by rw [show k = nn by omega]; exact Int32.le_refl _) c60)
    obtain rfl : k = nn := by omega
    exact kx σ1 (hf ▸ hR1) hF1
  | succ n ih =>
    intro k hk
    intro q e t1 Iq hsq ht1 hf σ1 hR1 hF1
    have hB : isW 28 := Or.inr (Or.inl rfl)
    simp only [mMinN] at hf
    refine y_iload_n C dX8_smokeAfter_58 rfl ?_
    refine y_iload_n C dX8_smokeAfter_59 rfl ?_
    refine y_icmp_ge (t := 77) C dX8_smokeAfter_60 (by decide) (fun c60 => absurd c60 (nI_ge (by omega) (by omega))) (fun c60 => ?_)
    refine y_aload_n C dX8_smokeAfter_63 rfl ?_
    refine g_X8_thought C dX8_smokeAfter_64 (by decide +kernel) (by decide +kernel) ?_
    refine y_callVi C (e_X7_letMinutePass hB _ _ hR1 Iq hsq (by omega)) dX8_smokeAfter_67 rfl gX8_smokeAfter_X7_letMinutePass rfl (is_X7 hB) ⟨rfl, qX7_letMinutePass⟩ ⟨rfl, rfl⟩ ⟨Nat.le_of_ble_eq_true rfl, Nat.le_of_ble_eq_true rfl⟩ rfl (Nat.le_of_ble_eq_true rfl) ⟨Nat.zero_le _, Nat.zero_le _⟩ (fun v2 σ2 τ2 hq => ?_)
    obtain ⟨rfl, hR2, hF2, rfl⟩ := hq
    refine y_pop C dX8_smokeAfter_70 rfl ?_
    refine y_iinc C dX8_smokeAfter_71 (L' := [_, _, _, _]) rfl (nI_1 k) rfl ?_
    refine y_goto (t := 58) C dX8_smokeAfter_74 (by decide) ?_
    exact ih (k + 1) (by omega) (mMin q) (e - mDue (upd q 7 (q 7 + 1))) (t1 + 1) (Iq.min hsq (by omega)) (Sk.min Iq hsq (by omega)) (by omega) hf σ2 hR2 (hF1.trans hF2)
set_option maxHeartbeats 4000000 in
set_option maxRecDepth 100000 in
theorem e_X8_smokeAfter (σ : xS) (τ : xT) {r : Rw} {R ns nr ne t kp : Nat} {qs : Nat → Rw} (hR : Rel σ 1 r) (hC : Rc σ kp qs) (hk : kp ≤ 4) (I : Inv r R ns nr ne t (t + 1)) (hs : Sk r) (ht : t + 200 ≤ 1000000) (u v : Int32) : Zi mX8_smokeAfter [.ref 0, .int u, .int v] σ τ (fun y σ1 τ1 => kRW r u v 1 200 = 0 ∧ y = (mMinN r (cN v) (20 + cN u)) ∧ Cl σ σ1 τ τ1 (r) (kp) (qs)) (fun E => (E = eIO ∧ kRW r u v 1 200 = 1) ∨ (E = eIA ∧ kRW r u v 1 200 = 2)) := by
  have hB : isW 1 := Or.inl rfl
  have hR4 := I.1.1.2
  have hs8 := I.1.2.1.2
  have hr8 := I.1.2.2.1.2
  have he20 := I.1.2.2.2.1.2
  have hB2 : isW 28 := Or.inr (Or.inl rfl)
  have hBB : 28 + 27 ≤ 1 ∨ 1 + 27 ≤ 28 := Or.inr (by decide)
  refine Zi_mk (L := [some (.ref 0), some (.int u), some (.int v), none]) (by decide) rfl (Nat.le_of_ble_eq_true rfl) rfl (fun x C0 => ?_)
  have C := C0.1
  refine y_aload_n C dX8_smokeAfter_0 rfl ?_
  refine g_X8_now C dX8_smokeAfter_1 (by decide +kernel) (by decide +kernel) ?_
  refine g_X7_house C hB dX8_smokeAfter_4 (by decide +kernel) (by decide +kernel) ?_
  refine y_iload_n C dX8_smokeAfter_7 rfl ?_
  refine y_callVi C (e_X3_isRoom hB _ _ hR _) dX8_smokeAfter_8 rfl gX8_smokeAfter_X3_isRoom rfl (is_X3 hB) ⟨rfl, qX3_isRoom⟩ ⟨rfl, rfl⟩ ⟨Nat.le_of_ble_eq_true rfl, Nat.le_of_ble_eq_true rfl⟩ rfl (Nat.le_of_ble_eq_true rfl) ⟨Nat.zero_le _, Nat.zero_le _⟩ (fun v1 σ1 τ1 hq => ?_)
  obtain ⟨rfl, rfl, rfl⟩ := hq
  refine y_if_ne (t := 24) C dX8_smokeAfter_11 (by decide) (fun c11 => ?_) (fun c11 => ?_)
  · -- t
    refine y_iload_n C dX8_smokeAfter_24 rfl ?_
    refine y_iconst (v := 1) C dX8_smokeAfter_25 (by decide) ?_
    refine y_sipush (v := 200) C dX8_smokeAfter_26 (by decide) ?_
    refine y_callSi C (e_X8_isWithin _ _ _ _ _) dX8_smokeAfter_29 rfl gX8_smokeAfter_X8_isWithin rfl qX8_isWithin ⟨rfl, rfl⟩ ⟨Nat.le_of_ble_eq_true rfl, Nat.le_of_ble_eq_true rfl⟩ rfl (Nat.le_of_ble_eq_true rfl) ⟨Nat.zero_le _, Nat.zero_le _⟩ (fun v1 σ1 τ1 hq => ?_)
    obtain ⟨rfl, rfl, rfl⟩ := hq
    refine y_if_ne (t := 45) C dX8_smokeAfter_32 (by decide) (fun c32 => ?_) (fun c32 => ?_)
    · -- t
      obtain ⟨i, hi, rfl⟩ := room_of I c11
      obtain ⟨w, hw1, hw, rfl⟩ := with1 200 (by decide) rfl c32
      rw [cN_nI (n := i) (by omega), cN_nI (n := w) (by omega)]
      refine y_aload_n C dX8_smokeAfter_45 rfl ?_
      refine g_X8_thought C dX8_smokeAfter_46 (by decide +kernel) (by decide +kernel) ?_
      refine y_aload_n C dX8_smokeAfter_49 rfl ?_
      refine g_X8_now C dX8_smokeAfter_50 (by decide +kernel) (by decide +kernel) ?_
      refine y_callVv C (e_copy hB2 hB hBB _ _ hR I.jam) dX8_smokeAfter_53 rfl gX8_smokeAfter_X7_copyFrom rfl (is_X7 hB2) ⟨rfl, qX7_copyFrom⟩ ⟨rfl, rfl⟩ ⟨Nat.le_of_ble_eq_true rfl, Nat.le_of_ble_eq_true rfl⟩ rfl (Nat.le_of_ble_eq_true rfl) ⟨Nat.zero_le _, Nat.zero_le _⟩ (fun σ2 τ2 hq => ?_)
      obtain ⟨hR2, hF2, rfl⟩ := hq
      refine y_iconst (v := 0) C dX8_smokeAfter_56 (by decide) ?_
      refine y_istore_n C dX8_smokeAfter_57 (L' := [_, _, _, _]) (Nat.lt_of_lt_of_le (by decide : (3 : Nat) < 4) (Nat.le_refl _)) rfl ?_
      refine l_X8_smokeAfter C σ2 τ (by omega) (mMinN r w) _ (fun σ3 hR3 hF3 => ?_) w 0 (Nat.zero_add _) r ne t I hs (by omega) rfl σ2 hR2 Fr.rf
      have hF9 := hF2.trans hF3
      refine y_aload_n C dX8_smokeAfter_77 rfl ?_
      refine g_X8_thought C dX8_smokeAfter_78 (by decide +kernel) (by decide +kernel) ?_
      refine g_X7_house C hB2 dX8_smokeAfter_81 (by decide +kernel) (by decide +kernel) ?_
      refine g_X3_smoke C hB2 dX8_smokeAfter_84 (by decide +kernel) (by decide +kernel) ?_
      refine y_iload_n C dX8_smokeAfter_87 rfl ?_
      refine aR C hB2 hR3 (20 + i) 2 i 4 (pl_lo20 _ (by omega)) (lv_l (by omega) (by omega)) (by decide) rfl (by decide) rfl (by omega) dX8_smokeAfter_88 ?_
      exact z_iret C rfl dX8_smokeAfter_89 (⟨by unfold kRW; rw [if_neg c11, if_neg c32], rfl, ⟨hR.k28 hF9, hC.k28 hF9, hF9.mono cS_28, rfl⟩⟩)
    · -- f
      exact z_thr C0 rfl (ik := 30) (ic := 34) (cls := eIA) (by decide) twX8_smokeAfter_a (is := 247) (text := "n is not 1 to 200") (by decide +kernel) dX8_smokeAfter_35 dX8_smokeAfter_38 dX8_smokeAfter_39 dX8_smokeAfter_41 dX8_smokeAfter_44 ⟨Nat.le_of_ble_eq_true rfl, Nat.le_of_ble_eq_true rfl, Nat.le_refl _, Nat.le_refl _⟩ rfl (Or.inr ⟨rfl, by unfold kRW; rw [if_neg c11, if_pos c32]⟩)
  · -- f
    exact z_thr C0 rfl (ik := 59) (ic := 63) (cls := eIO) (by decide) twX8_smokeAfter_b (is := 61) (text := "there is no such room") (by decide +kernel) dX8_smokeAfter_14 dX8_smokeAfter_17 dX8_smokeAfter_18 dX8_smokeAfter_20 dX8_smokeAfter_23 ⟨Nat.le_of_ble_eq_true rfl, Nat.le_of_ble_eq_true rfl, Nat.le_refl _, Nat.le_refl _⟩ rfl (Or.inl ⟨rfl, by unfold kRW; rw [if_pos c11]⟩)
set_option maxHeartbeats 4000000 in
set_option maxRecDepth 100000 in
theorem e_X8_peak (σ : xS) (τ : xT) {r : Rw} {R ns nr ne t kp : Nat} {qs : Nat → Rw} (hR : Rel σ 1 r) (hC : Rc σ kp qs) (hk : kp ≤ 4) (I : Inv r R ns nr ne t (t + 1)) (hs : Sk r) (ht : t + 200 ≤ 1000000) (u o v : Int32) : Zi mX8_peak [.ref 0, .int u, .int o, .int v] σ τ (fun y σ1 τ1 => kPeak r u o v = 0 ∧ y = (mPk r (cN u) o (cN v)) ∧ Cl σ σ1 τ τ1 (r) (kp) (qs)) (fun E => (E = eIO ∧ kPeak r u o v = 1) ∨ (E = eIA ∧ kPeak r u o v = 2)) := by
  have hB : isW 1 := Or.inl rfl
  have hR4 := I.1.1.2
  have hs8 := I.1.2.1.2
  have hr8 := I.1.2.2.1.2
  have he20 := I.1.2.2.2.1.2
  refine Zi_mk (L := [some (.ref 0), some (.int u), some (.int o), some (.int v)]) (by decide) rfl (Nat.le_of_ble_eq_true rfl) rfl (fun x C0 => ?_)
  have C := C0.1
  refine y_aload_n C dX8_peak_0 rfl ?_
  refine g_X8_now C dX8_peak_1 (by decide +kernel) (by decide +kernel) ?_
  refine g_X7_house C hB dX8_peak_4 (by decide +kernel) (by decide +kernel) ?_
  refine y_iload_n C dX8_peak_7 rfl ?_
  refine y_callVi C (e_X3_isRoom hB _ _ hR _) dX8_peak_8 rfl gX8_peak_X3_isRoom rfl (is_X3 hB) ⟨rfl, qX3_isRoom⟩ ⟨rfl, rfl⟩ ⟨Nat.le_of_ble_eq_true rfl, Nat.le_of_ble_eq_true rfl⟩ rfl (Nat.le_of_ble_eq_true rfl) ⟨Nat.zero_le _, Nat.zero_le _⟩ (fun v1 σ1 τ1 hq => ?_)
  obtain ⟨rfl, rfl, rfl⟩ := hq
  refine y_if_ne (t := 24) C dX8_peak_11 (by decide) (fun c11 => ?_) (fun c11 => ?_)
  · -- t
    refine y_iload_n C dX8_peak_24 rfl ?_
    refine y_iconst (v := 0) C dX8_peak_25 (by decide) ?_
    refine y_bipush (v := 8) C dX8_peak_26 (by decide) ?_
    refine y_callSi C (e_X8_isWithin _ _ _ _ _) dX8_peak_28 rfl gX8_peak_X8_isWithin rfl qX8_isWithin ⟨rfl, rfl⟩ ⟨Nat.le_of_ble_eq_true rfl, Nat.le_of_ble_eq_true rfl⟩ rfl (Nat.le_of_ble_eq_true rfl) ⟨Nat.zero_le _, Nat.zero_le _⟩ (fun v1 σ1 τ1 hq => ?_)
    obtain ⟨rfl, rfl, rfl⟩ := hq
    refine y_if_eq (t := 45) C dX8_peak_31 (by decide) (fun c31 => ?_) (fun c31 => ?_)
    · -- t
      exact z_thr C0 rfl (ik := 30) (ic := 34) (cls := eIA) (by decide) twX8_peak_a (is := 249) (text := "opening is not 0 to 8, or n is not 1 to 200") (by decide +kernel) dX8_peak_45 dX8_peak_48 dX8_peak_49 dX8_peak_51 dX8_peak_54 ⟨Nat.le_of_ble_eq_true rfl, Nat.le_of_ble_eq_true rfl, Nat.le_refl _, Nat.le_refl _⟩ rfl (Or.inr ⟨rfl, by unfold kPeak; rw [if_neg c11, if_pos (by first | exact Or.inl c31 | exact Or.inr c42)]⟩)
    · -- f
      refine y_iload_n C dX8_peak_34 rfl ?_
      refine y_iconst (v := 1) C dX8_peak_35 (by decide) ?_
      refine y_sipush (v := 200) C dX8_peak_36 (by decide) ?_
      refine y_callSi C (e_X8_isWithin _ _ _ _ _) dX8_peak_39 rfl gX8_peak_X8_isWithin rfl qX8_isWithin ⟨rfl, rfl⟩ ⟨Nat.le_of_ble_eq_true rfl, Nat.le_of_ble_eq_true rfl⟩ rfl (Nat.le_of_ble_eq_true rfl) ⟨Nat.zero_le _, Nat.zero_le _⟩ (fun v1 σ1 τ1 hq => ?_)
      obtain ⟨rfl, rfl, rfl⟩ := hq
      refine y_if_ne (t := 55) C dX8_peak_42 (by decide) (fun c42 => ?_) (fun c42 => ?_)
      · -- t
        obtain ⟨i, hi, rfl⟩ := room_of I c11
        obtain ⟨w, hw1, hw, rfl⟩ := with1 200 (by decide) rfl c42
        rw [cN_nI (n := i) (by omega), cN_nI (n := w) (by omega)]
        refine y_aload_n C dX8_peak_55 rfl ?_
        refine y_iload_n C dX8_peak_56 rfl ?_
        refine y_iload_n C dX8_peak_57 rfl ?_
        refine y_iload_n C dX8_peak_58 rfl ?_
        refine y_callVi C (e_X8_greatestSmoke _ _ hR I hs i w hi (by omega) o (w8 c31)) dX8_peak_59 rfl gX8_peak_X8_greatestSmoke rfl (is_X8) ⟨rfl, qX8_greatestSmoke⟩ ⟨rfl, rfl⟩ ⟨Nat.le_of_ble_eq_true rfl, Nat.le_of_ble_eq_true rfl⟩ rfl (Nat.le_of_ble_eq_true rfl) ⟨Nat.zero_le _, Nat.zero_le _⟩ (fun v9 σ9 τ9 hq => ?_)
        obtain ⟨rfl, hF9, rfl⟩ := hq
        exact z_iret C rfl dX8_peak_62 (⟨by unfold kPeak; rw [if_neg c11, if_neg (fun z => z.elim c31 c42)], rfl, ⟨hR.k28 hF9, hC.k28 hF9, hF9.mono cS_28, rfl⟩⟩)
      · -- f
        exact z_thr C0 rfl (ik := 30) (ic := 34) (cls := eIA) (by decide) twX8_peak_a (is := 249) (text := "opening is not 0 to 8, or n is not 1 to 200") (by decide +kernel) dX8_peak_45 dX8_peak_48 dX8_peak_49 dX8_peak_51 dX8_peak_54 ⟨Nat.le_of_ble_eq_true rfl, Nat.le_of_ble_eq_true rfl, Nat.le_refl _, Nat.le_refl _⟩ rfl (Or.inr ⟨rfl, by unfold kPeak; rw [if_neg c11, if_pos (by first | exact Or.inl c31 | exact Or.inr c42)]⟩)
  · -- f
    exact z_thr C0 rfl (ik := 59) (ic := 63) (cls := eIO) (by decide) twX8_peak_b (is := 61) (text := "there is no such room") (by decide +kernel) dX8_peak_14 dX8_peak_17 dX8_peak_18 dX8_peak_20 dX8_peak_23 ⟨Nat.le_of_ble_eq_true rfl, Nat.le_of_ble_eq_true rfl, Nat.le_refl _, Nat.le_refl _⟩ rfl (Or.inl ⟨rfl, by unfold kPeak; rw [if_pos c11]⟩)
set_option maxHeartbeats 4000000 in
set_option maxRecDepth 100000 in
theorem l_X8_bestOpening {x : xC} (C : Cx x mX8_bestOpening) (σ : xS) (τ : xT) {r : Rw} {R ns nr ne t w : Nat} (I : Inv r R ns nr ne t (t + 1)) (hs : Sk r) (ht : t + w ≤ 1000000) {Z : State → Prop} (kx : ∀ (σ1 : xS) (v4 v5 : Option Value), Fr (wS 28) σ σ1 → Y x 69 [some (.ref 0), some (.int (nI w)), some (.int (nI (mBe r w 8))), some (.int (mPk r 0 (nI (mBe r w 8)) w)), v4, v5] [] σ1 τ 0 0 Z) : ∀ n k : Nat, k + n = 8 → ∀ (v5 : Option Value) (σ1 : xS), Rel σ1 1 r → Fr (wS 28) σ σ1 → Y x 34 [some (.ref 0), some (.int (nI w)), some (.int (nI (mBe r w k))), some (.int (mPk r 0 (nI (mBe r w k)) w)), some (.int (nI (k + 1))), v5] [] σ1 τ 0 0 Z := by
  intro n
  induction n with
  | zero =>
    intro k hk
    intro v5 σ1 hR1 hF1
    refine y_iload C dX8_bestOpening_34 rfl ?_
    refine y_bipush (v := 8) C dX8_bestOpening_36 (by decide) ?_
    refine y_icmp_gt (t := 69) C dX8_bestOpening_38 (by decide) (fun c38 => ?_) (fun c38 => absurd (nI_lt (a := 8) (b := k + 1) (by omega) (by omega)) c38)
    obtain rfl : k = 8 := by omega
    exact kx σ1 _ _ hF1
  | succ n ih =>
    intro k hk
    intro v5 σ1 hR1 hF1
    refine y_iload C dX8_bestOpening_34 rfl ?_
    refine y_bipush (v := 8) C dX8_bestOpening_36 (by decide) ?_
    refine y_icmp_gt (t := 69) C dX8_bestOpening_38 (by decide) (fun c38 => absurd c38 (nI_nlt (a := 8) (b := k + 1) (by omega) (by omega))) (fun c38 => ?_)
    refine y_aload_n C dX8_bestOpening_41 rfl ?_
    refine y_iconst (v := 0) C dX8_bestOpening_42 (by decide) ?_
    refine y_iload C dX8_bestOpening_43 rfl ?_
    refine y_iload_n C dX8_bestOpening_45 rfl ?_
    refine y_callVi C (e_X8_greatestSmoke _ _ hR1 I hs 0 w I.1.1.2.1 ht (nI (k + 1)) (o8 (by omega))) dX8_bestOpening_46 rfl gX8_bestOpening_X8_greatestSmoke rfl (is_X8) ⟨rfl, qX8_greatestSmoke⟩ ⟨rfl, rfl⟩ ⟨Nat.le_of_ble_eq_true rfl, Nat.le_of_ble_eq_true rfl⟩ rfl (Nat.le_of_ble_eq_true rfl) ⟨Nat.zero_le _, Nat.zero_le _⟩ (fun v2 σ2 τ2 hq => ?_)
    obtain ⟨rfl, hF2, rfl⟩ := hq
    refine y_istore C dX8_bestOpening_49 (L' := [_, _, _, _, _, _]) (Nat.lt_of_lt_of_le (by decide : (5 : Nat) < 6) (Nat.le_refl _)) rfl ?_
    refine y_iload C dX8_bestOpening_51 rfl ?_
    refine y_iload_n C dX8_bestOpening_53 rfl ?_
    refine y_icmp_ge (t := 63) C dX8_bestOpening_54 (by decide) (fun kc54 => ?_) (fun kc54 => ?_)
    · -- t
      have hb : mBe r w (k + 1) = mBe r w k := by
        simp only [mBe]
        rw [if_neg (Int32.not_lt.mpr kc54)]
      refine y_iinc C dX8_bestOpening_63 (L' := [_, _, _, _, _, _]) rfl (nI_1 (k + 1)) rfl ?_
      refine y_goto (t := 34) C dX8_bestOpening_66 (by decide) ?_
      have h9 := ih (k + 1) (by omega) (some (.int (mPk r 0 (nI (k + 1)) w))) σ2 (hR1.k28 hF2) (hF1.trans hF2)
      rw [hb] at h9
      exact h9
    · -- f
      have hb : mBe r w (k + 1) = k + 1 := by
        simp only [mBe]
        rw [if_pos (Int32.not_le.mp kc54)]
      refine y_iload C dX8_bestOpening_57 rfl ?_
      refine y_istore_n C dX8_bestOpening_59 (L' := [_, _, _, _, _, _]) (Nat.lt_of_lt_of_le (by decide : (2 : Nat) < 6) (Nat.le_refl _)) rfl ?_
      refine y_iload C dX8_bestOpening_60 rfl ?_
      refine y_istore_n C dX8_bestOpening_62 (L' := [_, _, _, _, _, _]) (Nat.lt_of_lt_of_le (by decide : (3 : Nat) < 6) (Nat.le_refl _)) rfl ?_
      refine y_iinc C dX8_bestOpening_63 (L' := [_, _, _, _, _, _]) rfl (nI_1 (k + 1)) rfl ?_
      refine y_goto (t := 34) C dX8_bestOpening_66 (by decide) ?_
      have h9 := ih (k + 1) (by omega) (some (.int (mPk r 0 (nI (k + 1)) w))) σ2 (hR1.k28 hF2) (hF1.trans hF2)
      rw [hb] at h9
      exact h9
set_option maxHeartbeats 4000000 in
set_option maxRecDepth 100000 in
theorem e_X8_bestOpening (σ : xS) (τ : xT) {r : Rw} {R ns nr ne t kp : Nat} {qs : Nat → Rw} (hR : Rel σ 1 r) (hC : Rc σ kp qs) (hk : kp ≤ 4) (I : Inv r R ns nr ne t (t + 1)) (hs : Sk r) (ht : t + 200 ≤ 1000000) (u : Int32) : Zi mX8_bestOpening [.ref 0, .int u] σ τ (fun v σ1 τ1 => kW u 1 200 = 0 ∧ v = (nI (mBe r (cN u) 8)) ∧ Cl σ σ1 τ τ1 (r) (kp) (qs)) (fun E => E = eIA ∧ kW u 1 200 = 1) := by
  have hB : isW 1 := Or.inl rfl
  have hR4 := I.1.1.2
  have hs8 := I.1.2.1.2
  have hr8 := I.1.2.2.1.2
  have he20 := I.1.2.2.2.1.2
  refine Zi_mk (L := [some (.ref 0), some (.int u), none, none, none, none]) (by decide) rfl (Nat.le_of_ble_eq_true rfl) rfl (fun x C0 => ?_)
  have C := C0.1
  refine y_iload_n C dX8_bestOpening_0 rfl ?_
  refine y_iconst (v := 1) C dX8_bestOpening_1 (by decide) ?_
  refine y_sipush (v := 200) C dX8_bestOpening_2 (by decide) ?_
  refine y_callSi C (e_X8_isWithin _ _ _ _ _) dX8_bestOpening_5 rfl gX8_bestOpening_X8_isWithin rfl qX8_isWithin ⟨rfl, rfl⟩ ⟨Nat.le_of_ble_eq_true rfl, Nat.le_of_ble_eq_true rfl⟩ rfl (Nat.le_of_ble_eq_true rfl) ⟨Nat.zero_le _, Nat.zero_le _⟩ (fun v1 σ1 τ1 hq => ?_)
  obtain ⟨rfl, rfl, rfl⟩ := hq
  refine y_if_ne (t := 21) C dX8_bestOpening_8 (by decide) (fun c8 => ?_) (fun c8 => ?_)
  · -- t
    obtain ⟨w, hw1, hw, rfl⟩ := with1 200 (by decide) rfl c8
    rw [cN_nI (n := w) (by omega)]
    refine y_iconst (v := 0) C dX8_bestOpening_21 (by decide) ?_
    refine y_istore_n C dX8_bestOpening_22 (L' := [_, _, _, _, _, _]) (Nat.lt_of_lt_of_le (by decide : (2 : Nat) < 6) (Nat.le_refl _)) rfl ?_
    refine y_aload_n C dX8_bestOpening_23 rfl ?_
    refine y_iconst (v := 0) C dX8_bestOpening_24 (by decide) ?_
    refine y_iconst (v := 0) C dX8_bestOpening_25 (by decide) ?_
    refine y_iload_n C dX8_bestOpening_26 rfl ?_
    refine y_callVi C (e_X8_greatestSmoke _ _ hR I hs 0 w I.1.1.2.1 (by omega) 0 (by decide)) dX8_bestOpening_27 rfl gX8_bestOpening_X8_greatestSmoke rfl (is_X8) ⟨rfl, qX8_greatestSmoke⟩ ⟨rfl, rfl⟩ ⟨Nat.le_of_ble_eq_true rfl, Nat.le_of_ble_eq_true rfl⟩ rfl (Nat.le_of_ble_eq_true rfl) ⟨Nat.zero_le _, Nat.zero_le _⟩ (fun v2 σ2 τ2 hq => ?_)
    obtain ⟨rfl, hF2, rfl⟩ := hq
    refine y_istore_n C dX8_bestOpening_30 (L' := [_, _, _, _, _, _]) (Nat.lt_of_lt_of_le (by decide : (3 : Nat) < 6) (Nat.le_refl _)) rfl ?_
    refine y_iconst (v := 1) C dX8_bestOpening_31 (by decide) ?_
    refine y_istore C dX8_bestOpening_32 (L' := [_, _, _, _, _, _]) (Nat.lt_of_lt_of_le (by decide : (4 : Nat) < 6) (Nat.le_refl _)) rfl ?_
    refine l_X8_bestOpening C σ2 τ I hs (by omega) (fun σ3 v4 v5 hF3 => ?_) 8 0 (Nat.zero_add _) _ σ2 (hR.k28 hF2) Fr.rf
    have hF9 := hF2.trans hF3
    refine y_iload_n C dX8_bestOpening_69 rfl ?_
    exact z_iret C rfl dX8_bestOpening_70 (⟨by unfold kW; rw [if_neg c8], rfl, ⟨hR.k28 hF9, hC.k28 hF9, hF9.mono cS_28, rfl⟩⟩)
  · -- f
    exact z_thr C0 rfl (ik := 30) (ic := 34) (cls := eIA) (by decide) twX8_bestOpening_a (is := 247) (text := "n is not 1 to 200") (by decide +kernel) dX8_bestOpening_11 dX8_bestOpening_14 dX8_bestOpening_15 dX8_bestOpening_17 dX8_bestOpening_20 ⟨Nat.le_of_ble_eq_true rfl, Nat.le_of_ble_eq_true rfl, Nat.le_refl _, Nat.le_refl _⟩ rfl (⟨rfl, by unfold kW; rw [if_pos c8]⟩)
set_option maxHeartbeats 4000000 in
set_option maxRecDepth 100000 in
theorem l_X8_neededSensors {x : xC} (C : Cx x mX8_neededSensors) (σ : xS) (τ : xT) {r : Rw} {R ns nr ne t w : Nat} (I : Inv r R ns nr ne t (t + 1)) (hs : Sk r) (ht : t + w ≤ 1000000) (i : Nat) (hi : i < R) {Z : State → Prop} (kx : ∀ (σ1 : xS) (v4 : Option Value), Fr (wS 28) σ σ1 → Y x 136 [some (.ref 0), some (.int (nI i)), some (.int (nI w)), some (.int (mNd r i w ns)), v4] [] σ1 τ 0 0 Z) : ∀ n k : Nat, k + n = ns → ∀ (σ1 : xS), Rel σ1 1 r → Fr (wS 28) σ σ1 → Y x 73 [some (.ref 0), some (.int (nI i)), some (.int (nI w)), some (.int (mNd r i w k)), some (.int (nI k))] [] σ1 τ 0 0 Z := by
  intro n
  induction n with
  | zero =>
    intro k hk
    intro σ1 hR1 hF1
    have hB : isW 1 := Or.inl rfl
    have hs8 := I.1.2.1.2
    have hB2 : isW 28 := Or.inr (Or.inl rfl)
    have hBB : 28 + 27 ≤ 1 ∨ 1 + 27 ≤ 28 := Or.inr (by decide)
    refine y_iload C dX8_neededSensors_73 rfl ?_
    refine y_aload_n C dX8_neededSensors_75 rfl ?_
    refine g_X8_now C dX8_neededSensors_76 (by decide +kernel) (by decide +kernel) ?_
    refine g_X7_sensors C hB dX8_neededSensors_79 (by decide +kernel) (by decide +kernel) ?_
    refine gR_X6_count C hB hR1 dX8_neededSensors_82 (by decide +kernel) (by decide +kernel) ?_
    refine y_topE (nI ns) I.1.2.1.1 ?_
    refine y_icmp_ge (t := 136) C dX8_neededSensors_85 (by decide) (fun c85 => ?_) (fun c85 => absurd (by rw [show k = ns by omega]; exact Int32.le_refl _) c85)
    obtain rfl : k = ns := by omega
    exact kx σ1 _ hF1
  | succ n ih =>
    intro k hk
    intro σ1 hR1 hF1
    have hB : isW 1 := Or.inl rfl
    have hs8 := I.1.2.1.2
    have hB2 : isW 28 := Or.inr (Or.inl rfl)
    have hBB : 28 + 27 ≤ 1 ∨ 1 + 27 ≤ 28 := Or.inr (by decide)
    refine y_iload C dX8_neededSensors_73 rfl ?_
    refine y_aload_n C dX8_neededSensors_75 rfl ?_
    refine g_X8_now C dX8_neededSensors_76 (by decide +kernel) (by decide +kernel) ?_
    refine g_X7_sensors C hB dX8_neededSensors_79 (by decide +kernel) (by decide +kernel) ?_
    refine gR_X6_count C hB hR1 dX8_neededSensors_82 (by decide +kernel) (by decide +kernel) ?_
    refine y_topE (nI ns) I.1.2.1.1 ?_
    refine y_icmp_ge (t := 136) C dX8_neededSensors_85 (by decide) (fun c85 => absurd c85 (nI_ge (by omega) (by omega))) (fun c85 => ?_)
    refine y_aload_n C dX8_neededSensors_88 rfl ?_
    refine g_X8_thought C dX8_neededSensors_89 (by decide +kernel) (by decide +kernel) ?_
    refine y_aload_n C dX8_neededSensors_92 rfl ?_
    refine g_X8_now C dX8_neededSensors_93 (by decide +kernel) (by decide +kernel) ?_
    refine y_callVv C (e_copy hB2 hB hBB _ _ hR1 I.jam) dX8_neededSensors_96 rfl gX8_neededSensors_X7_copyFrom rfl (is_X7 hB2) ⟨rfl, qX7_copyFrom⟩ ⟨rfl, rfl⟩ ⟨Nat.le_of_ble_eq_true rfl, Nat.le_of_ble_eq_true rfl⟩ rfl (Nat.le_of_ble_eq_true rfl) ⟨Nat.zero_le _, Nat.zero_le _⟩ (fun σ2 τ2 hq => ?_)
    obtain ⟨hR2, hF2, rfl⟩ := hq
    refine y_aload_n C dX8_neededSensors_99 rfl ?_
    refine g_X8_thought C dX8_neededSensors_100 (by decide +kernel) (by decide +kernel) ?_
    refine g_X7_sensors C hB2 dX8_neededSensors_103 (by decide +kernel) (by decide +kernel) ?_
    refine g_X6_fault C hB2 dX8_neededSensors_106 (by decide +kernel) (by decide +kernel) ?_
    refine y_iload C dX8_neededSensors_109 rfl ?_
    refine y_iconst (v := 1) C dX8_neededSensors_111 (by decide) ?_
    refine wR C hB2 hR2 (57 + 7 * k + 5) 11 k 8 (pl_s _ (by omega) _ (by decide)) (by omega) (by omega) (lv_upd (by omega) (by omega) (by omega)) (by decide) rfl (by decide) rfl (by omega) dX8_neededSensors_112 (fun σ3 hR3 hF3 => ?_)
    refine y_aload_n C dX8_neededSensors_113 rfl ?_
    refine y_iload_n C dX8_neededSensors_114 rfl ?_
    refine y_iload_n C dX8_neededSensors_115 rfl ?_
    refine y_callVi C (e_X8_firstAlarm _ _ hR3 (I.dead (d := k) (by omega) 1) (hs.dead k 1) i w hi ht) dX8_neededSensors_116 rfl gX8_neededSensors_X8_firstAlarm rfl (is_X8) ⟨rfl, qX8_firstAlarm⟩ ⟨rfl, rfl⟩ ⟨Nat.le_of_ble_eq_true rfl, Nat.le_of_ble_eq_true rfl⟩ rfl (Nat.le_of_ble_eq_true rfl) ⟨Nat.zero_le _, Nat.zero_le _⟩ (fun v4 σ4 τ4 hq => ?_)
    obtain ⟨rfl, hF4, rfl⟩ := hq
    have hF5 := (hF2.trans hF3).trans hF4
    refine y_iconst (v := -1) C dX8_neededSensors_119 (by decide) ?_
    refine y_icmp_ne (t := 130) C dX8_neededSensors_120 (by decide) (fun kc120 => ?_) (fun kc120 => ?_)
    · -- t
      have hb : mNd r i w (k + 1) = mNd r i w k := by
        simp only [mNd]
        rw [if_neg kc120, Int32.or_zero]
      refine y_iinc C dX8_neededSensors_130 (L' := [_, _, _, _, _]) rfl (nI_1 k) rfl ?_
      refine y_goto (t := 73) C dX8_neededSensors_133 (by decide) ?_
      have h9 := ih (k + 1) (by omega) σ4 (hR1.k28 hF5) (hF1.trans hF5)
      rw [hb] at h9
      exact h9
    · -- f
      have hb : mNd r i w (k + 1) = mNd r i w k ||| ((1 : Int32) <<< (nI k &&& 31)) := by
        simp only [mNd]
        rw [if_pos kc120]
      refine y_iload_n C dX8_neededSensors_123 rfl ?_
      refine y_iconst (v := 1) C dX8_neededSensors_124 (by decide) ?_
      refine y_iload C dX8_neededSensors_125 rfl ?_
      refine y_ishl C dX8_neededSensors_127 ?_
      refine y_ior C dX8_neededSensors_128 ?_
      refine y_istore_n C dX8_neededSensors_129 (L' := [_, _, _, _, _]) (Nat.lt_of_lt_of_le (by decide : (3 : Nat) < 5) (Nat.le_refl _)) rfl ?_
      refine y_iinc C dX8_neededSensors_130 (L' := [_, _, _, _, _]) rfl (nI_1 k) rfl ?_
      refine y_goto (t := 73) C dX8_neededSensors_133 (by decide) ?_
      have h9 := ih (k + 1) (by omega) σ4 (hR1.k28 hF5) (hF1.trans hF5)
      rw [hb] at h9
      exact h9
set_option maxHeartbeats 4000000 in
set_option maxRecDepth 100000 in
theorem e_X8_neededSensors (σ : xS) (τ : xT) {r : Rw} {R ns nr ne t kp : Nat} {qs : Nat → Rw} (hR : Rel σ 1 r) (hC : Rc σ kp qs) (hk : kp ≤ 4) (I : Inv r R ns nr ne t (t + 1)) (hs : Sk r) (ht : t + 200 ≤ 1000000) (u v : Int32) : Zi mX8_neededSensors [.ref 0, .int u, .int v] σ τ (fun y σ1 τ1 => kRW r u v 1 200 = 0 ∧ y = (mNee r (cN u) (cN v) ns) ∧ Cl σ σ1 τ τ1 (r) (kp) (qs)) (fun E => (E = eIO ∧ kRW r u v 1 200 = 1) ∨ (E = eIA ∧ kRW r u v 1 200 = 2)) := by
  have hB : isW 1 := Or.inl rfl
  have hR4 := I.1.1.2
  have hs8 := I.1.2.1.2
  have hr8 := I.1.2.2.1.2
  have he20 := I.1.2.2.2.1.2
  have hB2 : isW 28 := Or.inr (Or.inl rfl)
  have hBB : 28 + 27 ≤ 1 ∨ 1 + 27 ≤ 28 := Or.inr (by decide)
  refine Zi_mk (L := [some (.ref 0), some (.int u), some (.int v), none, none]) (by decide) rfl (Nat.le_of_ble_eq_true rfl) rfl (fun x C0 => ?_)
  have C := C0.1
  refine y_aload_n C dX8_neededSensors_0 rfl ?_
  refine g_X8_now C dX8_neededSensors_1 (by decide +kernel) (by decide +kernel) ?_
  refine g_X7_house C hB dX8_neededSensors_4 (by decide +kernel) (by decide +kernel) ?_
  refine y_iload_n C dX8_neededSensors_7 rfl ?_
  refine y_callVi C (e_X3_isRoom hB _ _ hR _) dX8_neededSensors_8 rfl gX8_neededSensors_X3_isRoom rfl (is_X3 hB) ⟨rfl, qX3_isRoom⟩ ⟨rfl, rfl⟩ ⟨Nat.le_of_ble_eq_true rfl, Nat.le_of_ble_eq_true rfl⟩ rfl (Nat.le_of_ble_eq_true rfl) ⟨Nat.zero_le _, Nat.zero_le _⟩ (fun v1 σ1 τ1 hq => ?_)
  obtain ⟨rfl, rfl, rfl⟩ := hq
  refine y_if_ne (t := 24) C dX8_neededSensors_11 (by decide) (fun c11 => ?_) (fun c11 => ?_)
  · -- t
    refine y_iload_n C dX8_neededSensors_24 rfl ?_
    refine y_iconst (v := 1) C dX8_neededSensors_25 (by decide) ?_
    refine y_sipush (v := 200) C dX8_neededSensors_26 (by decide) ?_
    refine y_callSi C (e_X8_isWithin _ _ _ _ _) dX8_neededSensors_29 rfl gX8_neededSensors_X8_isWithin rfl qX8_isWithin ⟨rfl, rfl⟩ ⟨Nat.le_of_ble_eq_true rfl, Nat.le_of_ble_eq_true rfl⟩ rfl (Nat.le_of_ble_eq_true rfl) ⟨Nat.zero_le _, Nat.zero_le _⟩ (fun v1 σ1 τ1 hq => ?_)
    obtain ⟨rfl, rfl, rfl⟩ := hq
    refine y_if_ne (t := 45) C dX8_neededSensors_32 (by decide) (fun c32 => ?_) (fun c32 => ?_)
    · -- t
      obtain ⟨i, hi, rfl⟩ := room_of I c11
      obtain ⟨w, hw1, hw, rfl⟩ := with1 200 (by decide) rfl c32
      rw [cN_nI (n := i) (by omega), cN_nI (n := w) (by omega)]
      refine y_aload_n C dX8_neededSensors_45 rfl ?_
      refine g_X8_thought C dX8_neededSensors_46 (by decide +kernel) (by decide +kernel) ?_
      refine y_aload_n C dX8_neededSensors_49 rfl ?_
      refine g_X8_now C dX8_neededSensors_50 (by decide +kernel) (by decide +kernel) ?_
      refine y_callVv C (e_copy hB2 hB hBB _ _ hR I.jam) dX8_neededSensors_53 rfl gX8_neededSensors_X7_copyFrom rfl (is_X7 hB2) ⟨rfl, qX7_copyFrom⟩ ⟨rfl, rfl⟩ ⟨Nat.le_of_ble_eq_true rfl, Nat.le_of_ble_eq_true rfl⟩ rfl (Nat.le_of_ble_eq_true rfl) ⟨Nat.zero_le _, Nat.zero_le _⟩ (fun σ2 τ2 hq => ?_)
      obtain ⟨hR2, hF2, rfl⟩ := hq
      refine y_aload_n C dX8_neededSensors_56 rfl ?_
      refine y_iload_n C dX8_neededSensors_57 rfl ?_
      refine y_iload_n C dX8_neededSensors_58 rfl ?_
      refine y_callVi C (e_X8_firstAlarm _ _ hR2 I hs i w hi (by omega)) dX8_neededSensors_59 rfl gX8_neededSensors_X8_firstAlarm rfl (is_X8) ⟨rfl, qX8_firstAlarm⟩ ⟨rfl, rfl⟩ ⟨Nat.le_of_ble_eq_true rfl, Nat.le_of_ble_eq_true rfl⟩ rfl (Nat.le_of_ble_eq_true rfl) ⟨Nat.zero_le _, Nat.zero_le _⟩ (fun v3 σ3 τ3 hq => ?_)
      obtain ⟨rfl, hF3, rfl⟩ := hq
      refine y_iconst (v := -1) C dX8_neededSensors_62 (by decide) ?_
      refine y_icmp_ne (t := 68) C dX8_neededSensors_63 (by decide) (fun c63 => ?_) (fun c63 => ?_)
      · -- t
        refine y_iconst (v := 0) C dX8_neededSensors_68 (by decide) ?_
        refine y_istore_n C dX8_neededSensors_69 (L' := [_, _, _, _, _]) (Nat.lt_of_lt_of_le (by decide : (3 : Nat) < 5) (Nat.le_refl _)) rfl ?_
        refine y_iconst (v := 0) C dX8_neededSensors_70 (by decide) ?_
        refine y_istore C dX8_neededSensors_71 (L' := [_, _, _, _, _]) (Nat.lt_of_lt_of_le (by decide : (4 : Nat) < 5) (Nat.le_refl _)) rfl ?_
        refine l_X8_neededSensors C σ3 τ I hs (by omega) i hi (fun σ4 v4 hF4 => ?_) ns 0 (Nat.zero_add _) σ3 (hR.k28 (hF2.trans hF3)) Fr.rf
        have hF9 := (hF2.trans hF3).trans hF4
        refine y_iload_n C dX8_neededSensors_136 rfl ?_
        exact z_iret C rfl dX8_neededSensors_137 (⟨by unfold kRW; rw [if_neg c11, if_neg c32], by unfold mNee; rw [if_neg c63], ⟨hR.k28 hF9, hC.k28 hF9, hF9.mono cS_28, rfl⟩⟩)
      · -- f
        refine y_iconst (v := 0) C dX8_neededSensors_66 (by decide) ?_
        exact z_iret C rfl dX8_neededSensors_67 (have hF9 := hF2.trans hF3; ⟨by unfold kRW; rw [if_neg c11, if_neg c32], by unfold mNee; rw [if_pos c63], ⟨hR.k28 hF9, hC.k28 hF9, hF9.mono cS_28, rfl⟩⟩)
    · -- f
      exact z_thr C0 rfl (ik := 30) (ic := 34) (cls := eIA) (by decide) twX8_neededSensors_a (is := 247) (text := "n is not 1 to 200") (by decide +kernel) dX8_neededSensors_35 dX8_neededSensors_38 dX8_neededSensors_39 dX8_neededSensors_41 dX8_neededSensors_44 ⟨Nat.le_of_ble_eq_true rfl, Nat.le_of_ble_eq_true rfl, Nat.le_refl _, Nat.le_refl _⟩ rfl (Or.inr ⟨rfl, by unfold kRW; rw [if_neg c11, if_pos c32]⟩)
  · -- f
    exact z_thr C0 rfl (ik := 59) (ic := 63) (cls := eIO) (by decide) twX8_neededSensors_b (is := 61) (text := "there is no such room") (by decide +kernel) dX8_neededSensors_14 dX8_neededSensors_17 dX8_neededSensors_18 dX8_neededSensors_20 dX8_neededSensors_23 ⟨Nat.le_of_ble_eq_true rfl, Nat.le_of_ble_eq_true rfl, Nat.le_refl _, Nat.le_refl _⟩ rfl (Or.inl ⟨rfl, by unfold kRW; rw [if_pos c11]⟩)
set_option maxHeartbeats 4000000 in
set_option maxRecDepth 100000 in
theorem l_X8_burnsFor {x : xC} (C : Cx x mX8_burnsFor) (σ : xS) (τ : xT) {R ns nr nn : Nat} (hl : nn ≤ 1000000) (fin : Int32) {Z : State → Prop} (kx : ∀ (a : Int32) (pc9 : Nat) (v2 : Option Value) (σ1 : xS), (pc9 = 76 ∨ pc9 = 84) → a = fin → Fr (wS 28) σ σ1 → Y x pc9 [some (.ref 0), some (.int (nI nn)), v2] [.int a] σ1 τ 0 0 Z) : ∀ n k : Nat, k + n = nn → ∀ (q : Rw) (e t1 : Nat), Inv q R ns nr e t1 (t1 + 1) → Sk q → t1 + n ≤ 1000000 → mBuF q k n = fin → ∀ σ1 : xS, Rel σ1 28 q → Fr (wS 28) σ σ1 → Y x 49 [some (.ref 0), some (.int (nI nn)), some (.int (nI (k + 1)))] [] σ1 τ 0 0 Z := by
  intro n
  induction n with
  | zero =>
    intro k hk
    intro q e t1 Iq hsq ht1 hf σ1 hR1 hF1
    have hB : isW 28 := Or.inr (Or.inl rfl)
    simp only [mBuF] at hf
    refine y_iload_n C dX8_burnsFor_49 rfl ?_
    refine y_iload_n C dX8_burnsFor_50 rfl ?_
    refine y_icmp_gt (t := 83) C dX8_burnsFor_51 (by decide) (fun c51 => ?_) (fun c51 => absurd (nI_lt (by omega) (by omega)) c51)
    refine y_iconst (v := -1) C dX8_burnsFor_83 (by decide) ?_
    exact kx _ 84 _ σ1 (Or.inr rfl) hf hF1
  | succ n ih =>
    intro k hk
    intro q e t1 Iq hsq ht1 hf σ1 hR1 hF1
    have hB : isW 28 := Or.inr (Or.inl rfl)
    simp only [mBuF] at hf
    refine y_iload_n C dX8_burnsFor_49 rfl ?_
    refine y_iload_n C dX8_burnsFor_50 rfl ?_
    refine y_icmp_gt (t := 83) C dX8_burnsFor_51 (by decide) (fun c51 => absurd c51 (nI_nlt (by omega) (by omega))) (fun c51 => ?_)
    refine y_aload_n C dX8_burnsFor_54 rfl ?_
    refine g_X8_thought C dX8_burnsFor_55 (by decide +kernel) (by decide +kernel) ?_
    refine y_callVi C (e_X7_letMinutePass hB _ _ hR1 Iq hsq (by omega)) dX8_burnsFor_58 rfl gX8_burnsFor_X7_letMinutePass rfl (is_X7 hB) ⟨rfl, qX7_letMinutePass⟩ ⟨rfl, rfl⟩ ⟨Nat.le_of_ble_eq_true rfl, Nat.le_of_ble_eq_true rfl⟩ rfl (Nat.le_of_ble_eq_true rfl) ⟨Nat.zero_le _, Nat.zero_le _⟩ (fun v2 σ2 τ2 hq => ?_)
    obtain ⟨rfl, hR2, hF2, rfl⟩ := hq
    refine y_pop C dX8_burnsFor_61 rfl ?_
    refine y_aload_n C dX8_burnsFor_62 rfl ?_
    refine g_X8_thought C dX8_burnsFor_63 (by decide +kernel) (by decide +kernel) ?_
    refine g_X7_hearth C hB dX8_burnsFor_66 (by decide +kernel) (by decide +kernel) ?_
    refine gR_X2_fuel C hB hR2 dX8_burnsFor_69 (by decide +kernel) (by decide +kernel) ?_
    refine y_if_ne (t := 77) C dX8_burnsFor_72 (by decide) (fun kc72 => ?_) (fun kc72 => ?_)
    · -- t
      refine y_iinc C dX8_burnsFor_77 (L' := [_, _, _]) rfl (nI_1 (k + 1)) rfl ?_
      refine y_goto (t := 49) C dX8_burnsFor_80 (by decide) ?_
      exact ih (k + 1) (by omega) (mMin q) (e - mDue (upd q 7 (q 7 + 1))) (t1 + 1) (Iq.min hsq (by omega)) (Sk.min Iq hsq (by omega)) (by omega) (by rw [if_neg kc72] at hf; exact hf) σ2 hR2 (hF1.trans hF2)
    · -- f
      refine y_iload_n C dX8_burnsFor_75 rfl ?_
      exact kx _ 76 _ σ2 (Or.inl rfl) (by rw [if_pos kc72] at hf; exact hf) (hF1.trans hF2)
set_option maxHeartbeats 4000000 in
set_option maxRecDepth 100000 in
theorem e_X8_burnsFor (σ : xS) (τ : xT) {r : Rw} {R ns nr ne t kp : Nat} {qs : Nat → Rw} (hR : Rel σ 1 r) (hC : Rc σ kp qs) (hk : kp ≤ 4) (I : Inv r R ns nr ne t (t + 1)) (hs : Sk r) (ht : t + 200 ≤ 1000000) (u : Int32) : Zi mX8_burnsFor [.ref 0, .int u] σ τ (fun v σ1 τ1 => kW u 1 200 = 0 ∧ v = (mBFo r (cN u)) ∧ Cl σ σ1 τ τ1 (r) (kp) (qs)) (fun E => E = eIA ∧ kW u 1 200 = 1) := by
  have hB : isW 1 := Or.inl rfl
  have hR4 := I.1.1.2
  have hs8 := I.1.2.1.2
  have hr8 := I.1.2.2.1.2
  have he20 := I.1.2.2.2.1.2
  have hB2 : isW 28 := Or.inr (Or.inl rfl)
  have hBB : 28 + 27 ≤ 1 ∨ 1 + 27 ≤ 28 := Or.inr (by decide)
  refine Zi_mk (L := [some (.ref 0), some (.int u), none]) (by decide) rfl (Nat.le_of_ble_eq_true rfl) rfl (fun x C0 => ?_)
  have C := C0.1
  refine y_iload_n C dX8_burnsFor_0 rfl ?_
  refine y_iconst (v := 1) C dX8_burnsFor_1 (by decide) ?_
  refine y_sipush (v := 200) C dX8_burnsFor_2 (by decide) ?_
  refine y_callSi C (e_X8_isWithin _ _ _ _ _) dX8_burnsFor_5 rfl gX8_burnsFor_X8_isWithin rfl qX8_isWithin ⟨rfl, rfl⟩ ⟨Nat.le_of_ble_eq_true rfl, Nat.le_of_ble_eq_true rfl⟩ rfl (Nat.le_of_ble_eq_true rfl) ⟨Nat.zero_le _, Nat.zero_le _⟩ (fun v1 σ1 τ1 hq => ?_)
  obtain ⟨rfl, rfl, rfl⟩ := hq
  refine y_if_ne (t := 21) C dX8_burnsFor_8 (by decide) (fun c8 => ?_) (fun c8 => ?_)
  · -- t
    obtain ⟨w, hw1, hw, rfl⟩ := with1 200 (by decide) rfl c8
    rw [cN_nI (n := w) (by omega)]
    refine y_aload_n C dX8_burnsFor_21 rfl ?_
    refine g_X8_now C dX8_burnsFor_22 (by decide +kernel) (by decide +kernel) ?_
    refine g_X7_hearth C hB dX8_burnsFor_25 (by decide +kernel) (by decide +kernel) ?_
    refine gR_X2_fuel C hB hR dX8_burnsFor_28 (by decide +kernel) (by decide +kernel) ?_
    refine y_if_ne (t := 36) C dX8_burnsFor_31 (by decide) (fun c31 => ?_) (fun c31 => ?_)
    · -- t
      refine y_aload_n C dX8_burnsFor_36 rfl ?_
      refine g_X8_thought C dX8_burnsFor_37 (by decide +kernel) (by decide +kernel) ?_
      refine y_aload_n C dX8_burnsFor_40 rfl ?_
      refine g_X8_now C dX8_burnsFor_41 (by decide +kernel) (by decide +kernel) ?_
      refine y_callVv C (e_copy hB2 hB hBB _ _ hR I.jam) dX8_burnsFor_44 rfl gX8_burnsFor_X7_copyFrom rfl (is_X7 hB2) ⟨rfl, qX7_copyFrom⟩ ⟨rfl, rfl⟩ ⟨Nat.le_of_ble_eq_true rfl, Nat.le_of_ble_eq_true rfl⟩ rfl (Nat.le_of_ble_eq_true rfl) ⟨Nat.zero_le _, Nat.zero_le _⟩ (fun σ2 τ2 hq => ?_)
      obtain ⟨hR2, hF2, rfl⟩ := hq
      refine y_iconst (v := 1) C dX8_burnsFor_47 (by decide) ?_
      refine y_istore_n C dX8_burnsFor_48 (L' := [_, _, _]) (Nat.lt_of_lt_of_le (by decide : (2 : Nat) < 3) (Nat.le_refl _)) rfl ?_
      refine l_X8_burnsFor C σ2 τ (by omega) (mBuF r 0 w) (fun a pc9 v2 σ3 h9 ha hF3 => ?_) w 0 (Nat.zero_add _) r ne t I hs (by omega) rfl σ2 hR2 Fr.rf
      have hF9 := hF2.trans hF3
      have hq : kW (nI w) 1 200 = 0 ∧ a = mBFo r w ∧ Cl σ σ3 τ τ r kp qs := ⟨by unfold kW; rw [if_neg c8], by unfold mBFo; rw [if_neg c31]; exact ha, ⟨hR.k28 hF9, hC.k28 hF9, hF9.mono cS_28, rfl⟩⟩
      rcases h9 with rfl | rfl
      · exact z_iret C rfl dX8_burnsFor_76 hq
      · exact z_iret C rfl dX8_burnsFor_84 hq
    · -- f
      refine y_iconst (v := 0) C dX8_burnsFor_34 (by decide) ?_
      exact z_iret C rfl dX8_burnsFor_35 (⟨by unfold kW; rw [if_neg c8], by unfold mBFo; rw [if_pos c31], ⟨hR, hC, Fr.rf, rfl⟩⟩)
  · -- f
    exact z_thr C0 rfl (ik := 30) (ic := 34) (cls := eIA) (by decide) twX8_burnsFor_a (is := 236) (text := "limit is not 1 to 200") (by decide +kernel) dX8_burnsFor_11 dX8_burnsFor_14 dX8_burnsFor_15 dX8_burnsFor_17 dX8_burnsFor_20 ⟨Nat.le_of_ble_eq_true rfl, Nat.le_of_ble_eq_true rfl, Nat.le_refl _, Nat.le_refl _⟩ rfl (⟨rfl, by unfold kW; rw [if_pos c8]⟩)
