/-! THOUGHTS, ON THE FACE -/
def mAIn (r : Rw) (i n : Nat) : Int32 := if mAlaI r i = 0 then mFaF i r 0 n else 0
def mBFo (r : Rw) (n : Nat) : Int32 := if r 8 = 0 then 0 else mBuF r 0 n
def mBe (r : Rw) (n : Nat) : Nat → Nat
  | 0 => 0
  | k + 1 => if mPk r 0 (nI (k + 1)) n < mPk r 0 (nI (mBe r n k)) n then k + 1 else mBe r n k
theorem mBe_le (r : Rw) (n : Nat) : ∀ k, mBe r n k ≤ k := by
  intro k
  induction k with
  | zero => exact Nat.le_refl _
  | succ k ih =>
    simp only [mBe]
    split <;> omega
def mNd (r : Rw) (i n : Nat) : Nat → Int32
  | 0 => 0
  | k + 1 => mNd r i n k ||| (if mFaF i (upd r (57 + 7 * k + 5) 1) 0 n = -1 then (1 : Int32) <<< (nI k &&& 31) else 0)
def mNee (r : Rw) (i n ns : Nat) : Int32 := if mFaF i r 0 n = -1 then 0 else mNd r i n ns
theorem o8 {o : Nat} (h : o ≤ 8) : (0 : Int32) ≤ nI o ∧ nI o ≤ 8 := by
  have hz : o = 0 ∨ o = 1 ∨ o = 2 ∨ o = 3 ∨ o = 4 ∨ o = 5 ∨ o = 6 ∨ o = 7 ∨ o = 8 := by omega
  rcases hz with rfl | rfl | rfl | rfl | rfl | rfl | rfl | rfl | rfl <;> decide
theorem w8 {v : Int32} (h : ¬ mWithI v 0 8 = 0) : 0 ≤ v ∧ v ≤ 8 := mWithI_ne.mp h
theorem le_0 {x : Int32} (h0 : 0 ≤ x) : x ≤ 0 ↔ x = 0 := ⟨fun h => Int32.le_antisymm h h0, fun h => by rw [h]; exact Int32.le_refl _⟩
theorem gd1_t {P : Prop} [Decidable P] (h : ¬ (if P then (1 : Int32) else 0) = 0) : P := by
  by_cases z : P
  · exact z
  · exact absurd (if_neg z) h
theorem gd1_f {P : Prop} [Decidable P] (h : (if P then (1 : Int32) else 0) = 0) : ¬ P := by
  intro z
  rw [if_pos z] at h
  exact absurd h (by decide)

set_option maxHeartbeats 4000000 in
set_option maxRecDepth 100000 in
theorem l_X8_pass {x : xC} (C : Cx x mX8_pass) (σ : xS) (τ : xT) {R ns nr nn : Nat} (hl : nn ≤ 1000000) (rf : Rw) (bf : Int32) {Z : State → Prop} (kx : ∀ (σ1 : xS), Rel σ1 1 rf → Fr (wS 1) σ σ1 → Y x 56 [some (.ref 0), some (.int (nI nn)), some (.int bf), some (.int (nI nn))] [] σ1 τ 0 0 Z) : ∀ n k : Nat, k + n = nn → ∀ (q : Rw) (e t1 : Nat) (b : Int32), Inv q R ns nr e t1 (t1 + 1) → Sk q → t1 + n ≤ 1000000 → mMinN q n = rf → mNewN q n b = bf → ∀ σ1 : xS, Rel σ1 1 q → Fr (wS 1) σ σ1 → Y x 35 [some (.ref 0), some (.int (nI nn)), some (.int b), some (.int (nI k))] [] σ1 τ 0 0 Z := by
  intro n
  induction n with
  | zero =>
    intro k hk
    intro q e t1 b Iq hsq ht1 hf hg σ1 hR1 hF1
    have hB : isW 1 := Or.inl rfl
    simp only [mMinN, mNewN] at hf hg
    refine y_iload_n C dX8_pass_35 rfl ?_
    refine y_iload_n C dX8_pass_36 rfl ?_
    refine y_icmp_ge (t := 56) C dX8_pass_37 (by decide) (fun c37 => ?_) (fun c37 => absurd (by rw [show k = nn by omega]; exact Int32.le_refl _) c37)
    obtain rfl : k = nn := by omega
    rw [hg]
    exact kx σ1 (hf ▸ hR1) hF1
  | succ n ih =>
    intro k hk
    intro q e t1 b Iq hsq ht1 hf hg σ1 hR1 hF1
    have hB : isW 1 := Or.inl rfl
    simp only [mMinN, mNewN] at hf hg
    refine y_iload_n C dX8_pass_35 rfl ?_
    refine y_iload_n C dX8_pass_36 rfl ?_
    refine y_icmp_ge (t := 56) C dX8_pass_37 (by decide) (fun c37 => absurd c37 (nI_ge (by omega) (by omega))) (fun c37 => ?_)
    refine y_iload_n C dX8_pass_40 rfl ?_
    refine y_aload_n C dX8_pass_41 rfl ?_
    refine g_X8_now C dX8_pass_42 (by decide +kernel) (by decide +kernel) ?_
    refine y_callVi C (e_X7_letMinutePass hB _ _ hR1 Iq hsq (by omega)) dX8_pass_45 rfl gX8_pass_X7_letMinutePass rfl (is_X7 hB) ⟨rfl, qX7_letMinutePass⟩ ⟨rfl, rfl⟩ ⟨Nat.le_of_ble_eq_true rfl, Nat.le_of_ble_eq_true rfl⟩ rfl (Nat.le_of_ble_eq_true rfl) ⟨Nat.zero_le _, Nat.zero_le _⟩ (fun v2 σ2 τ2 hq => ?_)
    obtain ⟨rfl, hR2, hF2, rfl⟩ := hq
    refine y_iadd C dX8_pass_48 ?_
    refine y_istore_n C dX8_pass_49 (L' := [_, _, _, _]) (Nat.lt_of_lt_of_le (by decide : (2 : Nat) < 4) (Nat.le_refl _)) rfl ?_
    refine y_iinc C dX8_pass_50 (L' := [_, _, _, _]) rfl (nI_1 k) rfl ?_
    refine y_goto (t := 35) C dX8_pass_53 (by decide) ?_
    exact ih (k + 1) (by omega) (mMin q) (e - mDue (upd q 7 (q 7 + 1))) (t1 + 1) _ (Iq.min hsq (by omega)) (Sk.min Iq hsq (by omega)) (by omega) hf hg σ2 hR2 (hF1.trans hF2)
set_option maxHeartbeats 4000000 in
set_option maxRecDepth 100000 in
theorem e_X8_pass (σ : xS) (τ : xT) {r : Rw} {R ns nr ne t kp : Nat} {qs : Nat → Rw} (hR : Rel σ 1 r) (hC : Rc σ kp qs) (hk : kp ≤ 4) (I : Inv r R ns nr ne t (t + 1)) (hs : Sk r) (ht : t + 200 ≤ 1000000) (u : Int32) : Zi mX8_pass [.ref 0, .int u] σ τ (fun v σ1 τ1 => kW u 1 60 = 0 ∧ v = (mNewN r (cN u) 0) ∧ Cl σ σ1 τ τ1 (mMinN r (cN u)) (kK kp) (kQ kp qs r)) (fun E => E = eIA ∧ kW u 1 60 = 1) := by
  have hB : isW 1 := Or.inl rfl
  have hR4 := I.1.1.2
  have hs8 := I.1.2.1.2
  have hr8 := I.1.2.2.1.2
  have he20 := I.1.2.2.2.1.2
  refine Zi_mk (L := [some (.ref 0), some (.int u), none, none]) (by decide) rfl (Nat.le_of_ble_eq_true rfl) rfl (fun x C0 => ?_)
  have C := C0.1
  refine y_iload_n C dX8_pass_0 rfl ?_
  refine y_iconst (v := 1) C dX8_pass_1 (by decide) ?_
  refine y_bipush (v := 60) C dX8_pass_2 (by decide) ?_
  refine y_callSi C (e_X8_isWithin _ _ _ _ _) dX8_pass_4 rfl gX8_pass_X8_isWithin rfl qX8_isWithin ⟨rfl, rfl⟩ ⟨Nat.le_of_ble_eq_true rfl, Nat.le_of_ble_eq_true rfl⟩ rfl (Nat.le_of_ble_eq_true rfl) ⟨Nat.zero_le _, Nat.zero_le _⟩ (fun v1 σ1 τ1 hq => ?_)
  obtain ⟨rfl, rfl, rfl⟩ := hq
  refine y_if_ne (t := 20) C dX8_pass_7 (by decide) (fun c7 => ?_) (fun c7 => ?_)
  · -- t
    obtain ⟨w, hw1, hw, rfl⟩ := with1 60 (by decide) rfl c7
    rw [cN_nI (n := w) (by omega)]
    refine y_aload_n C dX8_pass_20 rfl ?_
    refine g_X8_records C dX8_pass_21 (by decide +kernel) (by decide +kernel) ?_
    refine y_aload_n C dX8_pass_24 rfl ?_
    refine g_X8_now C dX8_pass_25 (by decide +kernel) (by decide +kernel) ?_
    refine y_callVv C (e_keepZ _ _ hk hC hR I.jam) dX8_pass_28 rfl gX8_pass_X4_keep rfl (is_X4) ⟨rfl, qX4_keep⟩ ⟨rfl, rfl⟩ ⟨Nat.le_of_ble_eq_true rfl, Nat.le_of_ble_eq_true rfl⟩ rfl (Nat.le_of_ble_eq_true rfl) ⟨Nat.zero_le _, Nat.zero_le _⟩ (fun σ2 τ2 hq => ?_)
    obtain ⟨hC2, hR2, hF2, rfl⟩ := hq
    refine y_iconst (v := 0) C dX8_pass_31 (by decide) ?_
    refine y_istore_n C dX8_pass_32 (L' := [_, _, _, _]) (Nat.lt_of_lt_of_le (by decide : (2 : Nat) < 4) (Nat.le_refl _)) rfl ?_
    refine y_iconst (v := 0) C dX8_pass_33 (by decide) ?_
    refine y_istore_n C dX8_pass_34 (L' := [_, _, _, _]) (Nat.lt_of_lt_of_le (by decide : (3 : Nat) < 4) (Nat.le_refl _)) rfl ?_
    refine l_X8_pass C σ2 τ (by omega) (mMinN r w) (mNewN r w 0) (fun σ3 hR3 hF3 => ?_) w 0 (Nat.zero_add _) r ne t 0 I hs (by omega) rfl rfl σ2 hR2 Fr.rf
    refine y_iload_n C dX8_pass_56 rfl ?_
    exact z_iret C rfl dX8_pass_57 (⟨by unfold kW; rw [if_neg c7], rfl, hR3, hC2.k1 hF3, (hF2.mono cS_r).trans (hF3.mono cS_1), rfl⟩)
  · -- f
    exact z_thr C0 rfl (ik := 30) (ic := 34) (cls := eIA) (by decide) twX8_pass_a (is := 228) (text := "n is not 1 to 60") (by decide +kernel) dX8_pass_10 dX8_pass_13 dX8_pass_14 dX8_pass_16 dX8_pass_19 ⟨Nat.le_of_ble_eq_true rfl, Nat.le_of_ble_eq_true rfl, Nat.le_refl _, Nat.le_refl _⟩ rfl (⟨rfl, by unfold kW; rw [if_pos c7]⟩)
set_option maxHeartbeats 4000000 in
set_option maxRecDepth 100000 in
theorem l_X9_pass {x : xC} (C : Cx x mX9_pass) (σ : xS) (τ : xT) {R ns nr nn : Nat} (hl : nn ≤ 1000000) (rf : Rw) (bf : Int32) {Z : State → Prop} (kx : ∀ (σ1 : xS), σ1 166 = rf → Fr (fun q => q = 166 ∨ q = 169) σ σ1 → Y x 50 [some (.ref 165), some (.int (nI nn)), some (.int bf), some (.int (nI nn))] [] σ1 τ 0 0 Z) : ∀ n k : Nat, k + n = nn → ∀ (q : Rw) (e t1 : Nat) (b : Int32), Inv q R ns nr e t1 (t1 + 1) → Sk q → t1 + n ≤ 1000000 → mMinN q n = rf → mNewN q n b = bf → ∀ σ1 : xS, σ1 166 = q → Fr (fun q => q = 166 ∨ q = 169) σ σ1 → Y x 32 [some (.ref 165), some (.int (nI nn)), some (.int b), some (.int (nI k))] [] σ1 τ 0 0 Z := by
  intro n
  induction n with
  | zero =>
    intro k hk
    intro q e t1 b Iq hsq ht1 hf hg σ1 hM1 hF1
    simp only [mMinN, mNewN] at hf hg
    refine y_iload_n C dX9_pass_32 rfl ?_
    refine y_iload_n C dX9_pass_33 rfl ?_
    refine y_icmp_ge (t := 50) C dX9_pass_34 (by decide) (fun c34 => ?_) (fun c34 => absurd (by rw [show k = nn by omega]; exact Int32.le_refl _) c34)
    obtain rfl : k = nn := by omega
    rw [hg]
    exact kx σ1 (hM1.trans hf) hF1
  | succ n ih =>
    intro k hk
    intro q e t1 b Iq hsq ht1 hf hg σ1 hM1 hF1
    simp only [mMinN, mNewN] at hf hg
    refine y_iload_n C dX9_pass_32 rfl ?_
    refine y_iload_n C dX9_pass_33 rfl ?_
    refine y_icmp_ge (t := 50) C dX9_pass_34 (by decide) (fun c34 => absurd c34 (nI_ge (by omega) (by omega))) (fun c34 => ?_)
    refine y_iload_n C dX9_pass_37 rfl ?_
    refine y_aload_n C dX9_pass_38 rfl ?_
    refine y_callVi C (e_X9_minutes _ _ hM1 Iq hsq (by omega)) dX9_pass_39 rfl gX9_pass_X9_minutes rfl (is_X9) ⟨rfl, qX9_minutes⟩ ⟨rfl, rfl⟩ ⟨Nat.le_of_ble_eq_true rfl, Nat.le_of_ble_eq_true rfl⟩ rfl (Nat.le_of_ble_eq_true rfl) ⟨Nat.zero_le _, Nat.zero_le _⟩ (fun v2 σ2 τ2 hq => ?_)
    obtain ⟨rfl, hM2, hF2, rfl⟩ := hq
    refine y_iadd C dX9_pass_42 ?_
    refine y_istore_n C dX9_pass_43 (L' := [_, _, _, _]) (Nat.lt_of_lt_of_le (by decide : (2 : Nat) < 4) (Nat.le_refl _)) rfl ?_
    refine y_iinc C dX9_pass_44 (L' := [_, _, _, _]) rfl (nI_1 k) rfl ?_
    refine y_goto (t := 32) C dX9_pass_47 (by decide) ?_
    exact ih (k + 1) (by omega) (mMin q) (e - mDue (upd q 7 (q 7 + 1))) (t1 + 1) _ (Iq.min hsq (by omega)) (Sk.min Iq hsq (by omega)) (by omega) hf hg σ2 hM2 (hF1.trans hF2)
set_option maxHeartbeats 4000000 in
set_option maxRecDepth 100000 in
theorem e_X9_pass (σ : xS) (τ : xT) {r : Rw} {R ns nr ne t kp : Nat} {qs : Nat → Rw} (hM : σ 166 = r) (hC : RecM σ kp qs) (hk : kp ≤ 4) (I : Inv r R ns nr ne t (t + 1)) (hs : Sk r) (ht : t + 200 ≤ 1000000) (u : Int32) : Xi mX9_pass [.ref 165, .int u] σ τ (QM (kW u 1 60) (mNewN r (cN u) 0) σ τ r kp qs (mMinN r (cN u)) ((kK kp)) ((kQ kp qs r))) := by
  have hR4 := I.1.1.2
  have hs8 := I.1.2.1.2
  have hr8 := I.1.2.2.1.2
  have he20 := I.1.2.2.2.1.2
  refine Xi_mk (L := [some (.ref 165), some (.int u), none, none]) (by decide) rfl (Nat.le_of_ble_eq_true rfl) rfl (fun x C => ?_)
  refine y_aload_n C dX9_pass_0 rfl ?_
  refine y_join (t := 16) (v := .int (kW u 1 60)) ?_ (fun K1 => ?_)
  ·
    refine y_callVi C (e_X9_refused _ _ hM hC _) dX9_pass_16 rfl gX9_pass_X9_refused rfl (is_X9) ⟨rfl, qX9_refused⟩ ⟨rfl, rfl⟩ ⟨Nat.le_of_ble_eq_true rfl, Nat.le_of_ble_eq_true rfl⟩ rfl (Nat.le_of_ble_eq_true rfl) ⟨Nat.zero_le _, Nat.zero_le _⟩ (fun v1 σ1 τ1 hq => ?_)
    obtain ⟨rfl, hM1, hC1, hr1, hF1, rfl⟩ := hq
    refine y_if_eq (t := 24) C dX9_pass_19 (by decide) (fun c19 => ?_) (fun c19 => ?_)
    · -- t
      have hk0 : kW u 1 60 = 0 := (ref0 (kW_p _ _ _)).mp c19
      obtain ⟨w, hw1, hw, rfl⟩ := with1 60 (by decide) rfl (kW_0 hk0)
      rw [cN_nI (n := w) (by omega)]
      refine y_aload_n C dX9_pass_24 rfl ?_
      refine y_callVv C (e_savesR _ _ hk hC1 hM1) dX9_pass_25 rfl gX9_pass_X9_saves rfl (is_X9) ⟨rfl, qX9_saves⟩ ⟨rfl, rfl⟩ ⟨Nat.le_of_ble_eq_true rfl, Nat.le_of_ble_eq_true rfl⟩ rfl (Nat.le_of_ble_eq_true rfl) ⟨Nat.zero_le _, Nat.zero_le _⟩ (fun σ2 τ2 hq => ?_)
      obtain ⟨hC2, hM2, hr2, hF2, rfl⟩ := hq
      refine y_iconst (v := 0) C dX9_pass_28 (by decide) ?_
      refine y_istore_n C dX9_pass_29 (L' := [_, _, _, _]) (Nat.lt_of_lt_of_le (by decide : (2 : Nat) < 4) (Nat.le_refl _)) rfl ?_
      refine y_iconst (v := 0) C dX9_pass_30 (by decide) ?_
      refine y_istore_n C dX9_pass_31 (L' := [_, _, _, _]) (Nat.lt_of_lt_of_le (by decide : (3 : Nat) < 4) (Nat.le_refl _)) rfl ?_
      refine l_X9_pass C σ2 τ (by omega) (mMinN r w) (mNewN r w 0) (fun σ3 hM3 hF3 => ?_) w 0 (Nat.zero_add _) r ne t 0 I hs (by omega) rfl rfl σ2 hM2 Fr.rf
      refine y_iload_n C dX9_pass_50 rfl ?_
      exact y_iret C rfl dX9_pass_51 (⟨by rw [hF3 165 (by decide), hr2]; exact hr1, Or.inl ⟨hk0, rfl, hM3, hC2.k69 hF3, ((hF1.mono mS_5).trans (hF2.mono mS_57)).trans (hF3.mono mS_69), rfl⟩⟩)
    · -- f
      have hkn : ¬ kW u 1 60 = 0 := fun z => c19 ((ref0 (kW_p _ _ _)).mpr z)
      refine y_iconst (v := 0) C dX9_pass_22 (by decide) ?_
      exact y_iret C rfl dX9_pass_23 (⟨hr1, Or.inr ⟨hkn, hM1, hC1, hF1.mono mS_5, rfl⟩⟩)
  ·
    refine y_iload_n C dX9_pass_1 rfl ?_
    refine y_iconst (v := 1) C dX9_pass_2 (by decide) ?_
    refine y_bipush (v := 60) C dX9_pass_3 (by decide) ?_
    refine y_callSi C (e_X9_within _ _ _ _ _) dX9_pass_5 rfl gX9_pass_X9_within rfl qX9_within ⟨rfl, rfl⟩ ⟨Nat.le_of_ble_eq_true rfl, Nat.le_of_ble_eq_true rfl⟩ rfl (Nat.le_of_ble_eq_true rfl) ⟨Nat.zero_le _, Nat.zero_le _⟩ (fun v1 σ1 τ1 hq => ?_)
    obtain ⟨rfl, rfl, rfl⟩ := hq
    refine y_if_eq (t := 15) C dX9_pass_8 (by decide) (fun c8 => ?_) (fun c8 => ?_)
    · -- t
      refine y_iconst (v := 1) C dX9_pass_15 (by decide) ?_
      exact y_kE K1 (by unfold kW; first | (rw [if_pos c8]; done) | (rw [if_neg c8]; done))
    · -- f
      refine y_iconst (v := 0) C dX9_pass_11 (by decide) ?_
      refine y_goto (t := 16) C dX9_pass_12 (by decide) ?_
      exact y_kE K1 (by unfold kW; first | (rw [if_pos c8]; done) | (rw [if_neg c8]; done))
set_option maxHeartbeats 4000000 in
set_option maxRecDepth 100000 in
theorem e_X8_alarmIn (σ : xS) (τ : xT) {r : Rw} {R ns nr ne t kp : Nat} {qs : Nat → Rw} (hR : Rel σ 1 r) (hC : Rc σ kp qs) (hk : kp ≤ 4) (I : Inv r R ns nr ne t (t + 1)) (hs : Sk r) (ht : t + 200 ≤ 1000000) (u v : Int32) : Zi mX8_alarmIn [.ref 0, .int u, .int v] σ τ (fun y σ1 τ1 => kRW r u v 1 200 = 0 ∧ y = (mAIn r (cN u) (cN v)) ∧ Cl σ σ1 τ τ1 (r) (kp) (qs)) (fun E => (E = eIO ∧ kRW r u v 1 200 = 1) ∨ (E = eIA ∧ kRW r u v 1 200 = 2)) := by
  have hB : isW 1 := Or.inl rfl
  have hR4 := I.1.1.2
  have hs8 := I.1.2.1.2
  have hr8 := I.1.2.2.1.2
  have he20 := I.1.2.2.2.1.2
  have hB2 : isW 28 := Or.inr (Or.inl rfl)
  have hBB : 28 + 27 ≤ 1 ∨ 1 + 27 ≤ 28 := Or.inr (by decide)
  refine Zi_mk (L := [some (.ref 0), some (.int u), some (.int v)]) (by decide) rfl (Nat.le_of_ble_eq_true rfl) rfl (fun x C0 => ?_)
  have C := C0.1
  refine y_aload_n C dX8_alarmIn_0 rfl ?_
  refine g_X8_now C dX8_alarmIn_1 (by decide +kernel) (by decide +kernel) ?_
  refine g_X7_house C hB dX8_alarmIn_4 (by decide +kernel) (by decide +kernel) ?_
  refine y_iload_n C dX8_alarmIn_7 rfl ?_
  refine y_callVi C (e_X3_isRoom hB _ _ hR _) dX8_alarmIn_8 rfl gX8_alarmIn_X3_isRoom rfl (is_X3 hB) ⟨rfl, qX3_isRoom⟩ ⟨rfl, rfl⟩ ⟨Nat.le_of_ble_eq_true rfl, Nat.le_of_ble_eq_true rfl⟩ rfl (Nat.le_of_ble_eq_true rfl) ⟨Nat.zero_le _, Nat.zero_le _⟩ (fun v1 σ1 τ1 hq => ?_)
  obtain ⟨rfl, rfl, rfl⟩ := hq
  refine y_if_ne (t := 24) C dX8_alarmIn_11 (by decide) (fun c11 => ?_) (fun c11 => ?_)
  · -- t
    refine y_iload_n C dX8_alarmIn_24 rfl ?_
    refine y_iconst (v := 1) C dX8_alarmIn_25 (by decide) ?_
    refine y_sipush (v := 200) C dX8_alarmIn_26 (by decide) ?_
    refine y_callSi C (e_X8_isWithin _ _ _ _ _) dX8_alarmIn_29 rfl gX8_alarmIn_X8_isWithin rfl qX8_isWithin ⟨rfl, rfl⟩ ⟨Nat.le_of_ble_eq_true rfl, Nat.le_of_ble_eq_true rfl⟩ rfl (Nat.le_of_ble_eq_true rfl) ⟨Nat.zero_le _, Nat.zero_le _⟩ (fun v1 σ1 τ1 hq => ?_)
    obtain ⟨rfl, rfl, rfl⟩ := hq
    refine y_if_ne (t := 45) C dX8_alarmIn_32 (by decide) (fun c32 => ?_) (fun c32 => ?_)
    · -- t
      obtain ⟨i, hi, rfl⟩ := room_of I c11
      obtain ⟨w, hw1, hw, rfl⟩ := with1 200 (by decide) rfl c32
      rw [cN_nI (n := i) (by omega), cN_nI (n := w) (by omega)]
      refine y_aload_n C dX8_alarmIn_45 rfl ?_
      refine g_X8_now C dX8_alarmIn_46 (by decide +kernel) (by decide +kernel) ?_
      refine g_X7_alarms C hB dX8_alarmIn_49 (by decide +kernel) (by decide +kernel) ?_
      refine y_iload_n C dX8_alarmIn_52 rfl ?_
      refine y_callVi C (e_X0_soundsIn hB _ _ hR i (by omega)) dX8_alarmIn_53 rfl gX8_alarmIn_X0_soundsIn rfl (is_X0 hB) ⟨rfl, qX0_soundsIn⟩ ⟨rfl, rfl⟩ ⟨Nat.le_of_ble_eq_true rfl, Nat.le_of_ble_eq_true rfl⟩ rfl (Nat.le_of_ble_eq_true rfl) ⟨Nat.zero_le _, Nat.zero_le _⟩ (fun v1 σ1 τ1 hq => ?_)
      obtain ⟨rfl, rfl, rfl⟩ := hq
      refine y_if_eq (t := 61) C dX8_alarmIn_56 (by decide) (fun c56 => ?_) (fun c56 => ?_)
      · -- t
        refine y_aload_n C dX8_alarmIn_61 rfl ?_
        refine g_X8_thought C dX8_alarmIn_62 (by decide +kernel) (by decide +kernel) ?_
        refine y_aload_n C dX8_alarmIn_65 rfl ?_
        refine g_X8_now C dX8_alarmIn_66 (by decide +kernel) (by decide +kernel) ?_
        refine y_callVv C (e_copy hB2 hB hBB _ _ hR I.jam) dX8_alarmIn_69 rfl gX8_alarmIn_X7_copyFrom rfl (is_X7 hB2) ⟨rfl, qX7_copyFrom⟩ ⟨rfl, rfl⟩ ⟨Nat.le_of_ble_eq_true rfl, Nat.le_of_ble_eq_true rfl⟩ rfl (Nat.le_of_ble_eq_true rfl) ⟨Nat.zero_le _, Nat.zero_le _⟩ (fun σ2 τ2 hq => ?_)
        obtain ⟨hR2, hF2, rfl⟩ := hq
        refine y_aload_n C dX8_alarmIn_72 rfl ?_
        refine y_iload_n C dX8_alarmIn_73 rfl ?_
        refine y_iload_n C dX8_alarmIn_74 rfl ?_
        refine y_callVi C (e_X8_firstAlarm _ _ hR2 I hs i w hi (by omega)) dX8_alarmIn_75 rfl gX8_alarmIn_X8_firstAlarm rfl (is_X8) ⟨rfl, qX8_firstAlarm⟩ ⟨rfl, rfl⟩ ⟨Nat.le_of_ble_eq_true rfl, Nat.le_of_ble_eq_true rfl⟩ rfl (Nat.le_of_ble_eq_true rfl) ⟨Nat.zero_le _, Nat.zero_le _⟩ (fun v3 σ3 τ3 hq => ?_)
        obtain ⟨rfl, hF3, rfl⟩ := hq
        have hF9 := hF2.trans hF3
        exact z_iret C rfl dX8_alarmIn_78 (⟨by unfold kRW; rw [if_neg c11, if_neg c32], by unfold mAIn; rw [if_pos c56], ⟨hR.k28 hF9, hC.k28 hF9, hF9.mono cS_28, rfl⟩⟩)
      · -- f
        refine y_iconst (v := 0) C dX8_alarmIn_59 (by decide) ?_
        exact z_iret C rfl dX8_alarmIn_60 (⟨by unfold kRW; rw [if_neg c11, if_neg c32], by unfold mAIn; rw [if_neg c56], ⟨hR, hC, Fr.rf, rfl⟩⟩)
    · -- f
      exact z_thr C0 rfl (ik := 30) (ic := 34) (cls := eIA) (by decide) twX8_alarmIn_a (is := 236) (text := "limit is not 1 to 200") (by decide +kernel) dX8_alarmIn_35 dX8_alarmIn_38 dX8_alarmIn_39 dX8_alarmIn_41 dX8_alarmIn_44 ⟨Nat.le_of_ble_eq_true rfl, Nat.le_of_ble_eq_true rfl, Nat.le_refl _, Nat.le_refl _⟩ rfl (Or.inr ⟨rfl, by unfold kRW; rw [if_neg c11, if_pos c32]⟩)
  · -- f
    exact z_thr C0 rfl (ik := 59) (ic := 63) (cls := eIO) (by decide) twX8_alarmIn_b (is := 61) (text := "there is no such room") (by decide +kernel) dX8_alarmIn_14 dX8_alarmIn_17 dX8_alarmIn_18 dX8_alarmIn_20 dX8_alarmIn_23 ⟨Nat.le_of_ble_eq_true rfl, Nat.le_of_ble_eq_true rfl, Nat.le_refl _, Nat.le_refl _⟩ rfl (Or.inl ⟨rfl, by unfold kRW; rw [if_pos c11]⟩)
set_option maxHeartbeats 4000000 in
set_option maxRecDepth 100000 in
theorem l_X9_alarmIn {x : xC} (C : Cx x mX9_alarmIn) (σ : xS) (τ : xT) {R ns nr nn : Nat} (hR4 : R ≤ 4) (i : Nat) (hi : i < R) (hl : nn ≤ 1000000) (fin : Int32) {Z : State → Prop} (kx : ∀ (q : Rw) (k : Nat) (σ1 : xS) (v4 : Option Value), σ1 166 = q → Fr (fun q => q = 166 ∨ q = 169) σ σ1 → (if mAlaI q i = 0 then -1 else nI k) = fin → Y x 64 [some (.ref 165), some (.int (nI i)), some (.int (nI nn)), some (.int (nI k)), v4] [] σ1 τ 0 0 Z) : ∀ n k : Nat, k + n = nn → ∀ (q : Rw) (e t1 : Nat) (v4 : Option Value), Inv q R ns nr e t1 (t1 + 1) → Sk q → t1 + n ≤ 1000000 → (if mAlaI q i = 0 then mFaF i q k n else nI k) = fin → ∀ σ1 : xS, σ1 166 = q → Fr (fun q => q = 166 ∨ q = 169) σ σ1 → Y x 39 [some (.ref 165), some (.int (nI i)), some (.int (nI nn)), some (.int (nI k)), v4] [] σ1 τ 0 0 Z := by
  intro n
  induction n with
  | zero =>
    intro k hk
    intro q e t1 v4 Iq hsq ht1 hf σ1 hM1 hF1
    refine y_iload_n C dX9_alarmIn_39 rfl ?_
    refine y_iload_n C dX9_alarmIn_40 rfl ?_
    refine y_icmp_ge (t := 64) C dX9_alarmIn_41 (by decide) (fun c41 => ?_) (fun c41 => absurd (by rw [show k = nn by omega]; exact Int32.le_refl _) c41)
    exact kx q k σ1 _ hM1 hF1 (by simp only [mFaF] at hf; exact hf)
  | succ n ih =>
    intro k hk
    intro q e t1 v4 Iq hsq ht1 hf σ1 hM1 hF1
    refine y_iload_n C dX9_alarmIn_39 rfl ?_
    refine y_iload_n C dX9_alarmIn_40 rfl ?_
    refine y_icmp_ge (t := 64) C dX9_alarmIn_41 (by decide) (fun c41 => absurd c41 (nI_ge (by omega) (by omega))) (fun c41 => ?_)
    refine y_aload_n C dX9_alarmIn_44 rfl ?_
    refine y_iload_n C dX9_alarmIn_45 rfl ?_
    refine y_callVi C (e_X9_hasAlarm _ _ hM1 i (by omega)) dX9_alarmIn_46 rfl gX9_alarmIn_X9_hasAlarm rfl (is_X9) ⟨rfl, qX9_hasAlarm⟩ ⟨rfl, rfl⟩ ⟨Nat.le_of_ble_eq_true rfl, Nat.le_of_ble_eq_true rfl⟩ rfl (Nat.le_of_ble_eq_true rfl) ⟨Nat.zero_le _, Nat.zero_le _⟩ (fun v3 σ3 τ3 hq => ?_)
    obtain ⟨rfl, rfl, rfl⟩ := hq
    refine y_if_ne (t := 64) C dX9_alarmIn_49 (by decide) (fun kc49 => ?_) (fun kc49 => ?_)
    · -- t
      exact kx q k σ1 _ hM1 hF1 (by rw [if_neg kc49] at hf ⊢; exact hf)
    · -- f
      refine y_aload_n C dX9_alarmIn_52 rfl ?_
      refine y_callVi C (e_X9_minutes _ _ hM1 Iq hsq (by omega)) dX9_alarmIn_53 rfl gX9_alarmIn_X9_minutes rfl (is_X9) ⟨rfl, qX9_minutes⟩ ⟨rfl, rfl⟩ ⟨Nat.le_of_ble_eq_true rfl, Nat.le_of_ble_eq_true rfl⟩ rfl (Nat.le_of_ble_eq_true rfl) ⟨Nat.zero_le _, Nat.zero_le _⟩ (fun v2 σ2 τ2 hq => ?_)
      obtain ⟨rfl, hM2, hF2, rfl⟩ := hq
      refine y_istore C dX9_alarmIn_56 (L' := [_, _, _, _, _]) (Nat.lt_of_lt_of_le (by decide : (4 : Nat) < 5) (Nat.le_refl _)) rfl ?_
      refine y_iinc C dX9_alarmIn_58 (L' := [_, _, _, _, _]) rfl (nI_1 k) rfl ?_
      refine y_goto (t := 39) C dX9_alarmIn_61 (by decide) ?_
      exact ih (k + 1) (by omega) (mMin q) (e - mDue (upd q 7 (q 7 + 1))) (t1 + 1) _ (Iq.min hsq (by omega)) (Sk.min Iq hsq (by omega)) (by omega) (by
        rw [if_pos kc49] at hf
        rw [← hf]
        simp only [mFaF]
        by_cases z : mAlaI (mMin q) i = 0
        · rw [if_pos z, if_neg (fun y => y z)]
        · rw [if_neg z, if_pos z]) σ2 hM2 (hF1.trans hF2)
set_option maxHeartbeats 4000000 in
set_option maxRecDepth 100000 in
theorem e_X9_alarmIn (σ : xS) (τ : xT) {r : Rw} {R ns nr ne t kp : Nat} {qs : Nat → Rw} (hM : σ 166 = r) (hC : RecM σ kp qs) (hk : kp ≤ 4) (I : Inv r R ns nr ne t (t + 1)) (hs : Sk r) (ht : t + 200 ≤ 1000000) (u v : Int32) : Xi mX9_alarmIn [.ref 165, .int u, .int v] σ τ (QM (kRW r u v 1 200) (mAIn r (cN u) (cN v)) σ τ r kp qs (r) (kp) (qs)) := by
  have hR4 := I.1.1.2
  have hs8 := I.1.2.1.2
  have hr8 := I.1.2.2.1.2
  have he20 := I.1.2.2.2.1.2
  refine Xi_mk (L := [some (.ref 165), some (.int u), some (.int v), none, none]) (by decide) rfl (Nat.le_of_ble_eq_true rfl) rfl (fun x C => ?_)
  refine y_aload_n C dX9_alarmIn_0 rfl ?_
  refine y_join (t := 25) (v := .int (kRW r u v 1 200)) ?_ (fun K1 => ?_)
  ·
    refine y_callVi C (e_X9_refused _ _ hM hC _) dX9_alarmIn_25 rfl gX9_alarmIn_X9_refused rfl (is_X9) ⟨rfl, qX9_refused⟩ ⟨rfl, rfl⟩ ⟨Nat.le_of_ble_eq_true rfl, Nat.le_of_ble_eq_true rfl⟩ rfl (Nat.le_of_ble_eq_true rfl) ⟨Nat.zero_le _, Nat.zero_le _⟩ (fun v1 σ1 τ1 hq => ?_)
    obtain ⟨rfl, hM1, hC1, hr1, hF1, rfl⟩ := hq
    refine y_if_eq (t := 33) C dX9_alarmIn_28 (by decide) (fun c28 => ?_) (fun c28 => ?_)
    · -- t
      have hk0 : kRW r u v 1 200 = 0 := (ref0 (kRW_p _ _ _ _ _)).mp c28
      obtain ⟨i, hi, rfl⟩ := room_of I (kRW_0 hk0).1
      obtain ⟨w, hw1, hw, rfl⟩ := with1 200 (by decide) rfl (kRW_0 hk0).2
      rw [cN_nI (n := i) (by omega), cN_nI (n := w) (by omega)]
      refine y_aload_n C dX9_alarmIn_33 rfl ?_
      refine y_callVv C (e_keepsR _ _ hM1) dX9_alarmIn_34 rfl gX9_alarmIn_X9_keeps rfl (is_X9) ⟨rfl, qX9_keeps⟩ ⟨rfl, rfl⟩ ⟨Nat.le_of_ble_eq_true rfl, Nat.le_of_ble_eq_true rfl⟩ rfl (Nat.le_of_ble_eq_true rfl) ⟨Nat.zero_le _, Nat.zero_le _⟩ (fun σ2 τ2 hq => ?_)
      obtain ⟨hK2, hF2, rfl⟩ := hq
      have hM2 : σ2 166 = r := by rw [hF2 166 (by decide)]; exact hM1
      refine y_iconst (v := 0) C dX9_alarmIn_37 (by decide) ?_
      refine y_istore_n C dX9_alarmIn_38 (L' := [_, _, _, _, _]) (Nat.lt_of_lt_of_le (by decide : (3 : Nat) < 5) (Nat.le_refl _)) rfl ?_
      refine l_X9_alarmIn C σ2 τ (by omega) i hi (by omega) (if mAlaI r i = 0 then mFaF i r 0 w else nI 0) (fun q k σ3 v4 hM3 hF3 hf => ?_) w 0 (Nat.zero_add _) r ne t _ I hs (by omega) rfl σ2 hM2 Fr.rf
      refine y_aload_n C dX9_alarmIn_64 rfl ?_
      refine y_iload_n C dX9_alarmIn_65 rfl ?_
      refine y_callVi C (e_X9_hasAlarm _ _ hM3 i (by omega)) dX9_alarmIn_66 rfl gX9_alarmIn_X9_hasAlarm rfl (is_X9) ⟨rfl, qX9_hasAlarm⟩ ⟨rfl, rfl⟩ ⟨Nat.le_of_ble_eq_true rfl, Nat.le_of_ble_eq_true rfl⟩ rfl (Nat.le_of_ble_eq_true rfl) ⟨Nat.zero_le _, Nat.zero_le _⟩ (fun v4 σ4 τ4 hq => ?_)
      obtain ⟨rfl, rfl, rfl⟩ := hq
      refine y_istore C dX9_alarmIn_69 (L' := [_, _, _, _, _]) (Nat.lt_of_lt_of_le (by decide : (4 : Nat) < 5) (Nat.le_refl _)) rfl ?_
      refine y_aload_n C dX9_alarmIn_71 rfl ?_
      refine y_callVv C (e_returnsR _ _ (show σ3 168 = r by rw [hF3 168 (by decide)]; exact hK2)) dX9_alarmIn_72 rfl gX9_alarmIn_X9_returns rfl (is_X9) ⟨rfl, qX9_returns⟩ ⟨rfl, rfl⟩ ⟨Nat.le_of_ble_eq_true rfl, Nat.le_of_ble_eq_true rfl⟩ rfl (Nat.le_of_ble_eq_true rfl) ⟨Nat.zero_le _, Nat.zero_le _⟩ (fun σ5 τ5 hq => ?_)
      obtain ⟨hM5, hF5, rfl⟩ := hq
      refine y_iload C dX9_alarmIn_75 rfl ?_
      refine y_if_eq (t := 84) C dX9_alarmIn_77 (by decide) (fun c77 => ?_) (fun c77 => ?_)
      · -- t
        refine y_iconst (v := -1) C dX9_alarmIn_84 (by decide) ?_
        exact y_iret C rfl dX9_alarmIn_85 (⟨by rw [hF5 165 (by decide), hF3 165 (by decide), hF2 165 (by decide)]; exact hr1, Or.inl ⟨hk0, by unfold mAIn; first | (rw [if_pos c77] at hf; exact hf) | (rw [if_neg c77] at hf; exact hf), hM5, ((hC1.k8 hF2).k69 hF3).k6 hF5, (((hF1.mono mS_5).trans (hF2.mono mS_8)).trans (hF3.mono mS_69)).trans (hF5.mono mS_6), rfl⟩⟩)
      · -- f
        refine y_iload_n C dX9_alarmIn_80 rfl ?_
        refine y_goto (t := 85) C dX9_alarmIn_81 (by decide) ?_
        exact y_iret C rfl dX9_alarmIn_85 (⟨by rw [hF5 165 (by decide), hF3 165 (by decide), hF2 165 (by decide)]; exact hr1, Or.inl ⟨hk0, by unfold mAIn; first | (rw [if_pos c77] at hf; exact hf) | (rw [if_neg c77] at hf; exact hf), hM5, ((hC1.k8 hF2).k69 hF3).k6 hF5, (((hF1.mono mS_5).trans (hF2.mono mS_8)).trans (hF3.mono mS_69)).trans (hF5.mono mS_6), rfl⟩⟩)
    · -- f
      have hkn : ¬ kRW r u v 1 200 = 0 := fun z => c28 ((ref0 (kRW_p _ _ _ _ _)).mpr z)
      refine y_iconst (v := 0) C dX9_alarmIn_31 (by decide) ?_
      exact y_iret C rfl dX9_alarmIn_32 (⟨hr1, Or.inr ⟨hkn, hM1, hC1, hF1.mono mS_5, rfl⟩⟩)
  ·
    refine y_aload_n C dX9_alarmIn_1 rfl ?_
    refine y_iload_n C dX9_alarmIn_2 rfl ?_
    refine y_callVi C (e_X9_isRoomR _ _ hM I _) dX9_alarmIn_3 rfl gX9_alarmIn_X9_isRoom rfl (is_X9) ⟨rfl, qX9_isRoom⟩ ⟨rfl, rfl⟩ ⟨Nat.le_of_ble_eq_true rfl, Nat.le_of_ble_eq_true rfl⟩ rfl (Nat.le_of_ble_eq_true rfl) ⟨Nat.zero_le _, Nat.zero_le _⟩ (fun v1 σ1 τ1 hq => ?_)
    obtain ⟨rfl, rfl, rfl⟩ := hq
    refine y_if_ne (t := 13) C dX9_alarmIn_6 (by decide) (fun c6 => ?_) (fun c6 => ?_)
    · -- t
      refine y_iload_n C dX9_alarmIn_13 rfl ?_
      refine y_callSi C (e_X9_isAhead _ _ _) dX9_alarmIn_14 rfl gX9_alarmIn_X9_isAhead rfl qX9_isAhead ⟨rfl, rfl⟩ ⟨Nat.le_of_ble_eq_true rfl, Nat.le_of_ble_eq_true rfl⟩ rfl (Nat.le_of_ble_eq_true rfl) ⟨Nat.zero_le _, Nat.zero_le _⟩ (fun v1 σ1 τ1 hq => ?_)
      obtain ⟨rfl, rfl, rfl⟩ := hq
      refine y_if_ne (t := 24) C dX9_alarmIn_17 (by decide) (fun c17 => ?_) (fun c17 => ?_)
      · -- t
        refine y_iconst (v := 0) C dX9_alarmIn_24 (by decide) ?_
        exact y_kE K1 (by unfold kRW; first | (rw [if_pos c6]; done) | (rw [if_neg c6, if_pos c17]; done) | (rw [if_neg c6, if_neg c17]; done))
      · -- f
        refine y_iconst (v := 2) C dX9_alarmIn_20 (by decide) ?_
        refine y_goto (t := 25) C dX9_alarmIn_21 (by decide) ?_
        exact y_kE K1 (by unfold kRW; first | (rw [if_pos c6]; done) | (rw [if_neg c6, if_pos c17]; done) | (rw [if_neg c6, if_neg c17]; done))
    · -- f
      refine y_iconst (v := 1) C dX9_alarmIn_9 (by decide) ?_
      refine y_goto (t := 25) C dX9_alarmIn_10 (by decide) ?_
      exact y_kE K1 (by unfold kRW; first | (rw [if_pos c6]; done) | (rw [if_neg c6, if_pos c17]; done) | (rw [if_neg c6, if_neg c17]; done))
set_option maxHeartbeats 4000000 in
set_option maxRecDepth 100000 in
theorem l_X8_smokeAfter {x : xC} (C : Cx x mX8_smokeAfter) (σ : xS) (τ : xT) {R ns nr nn : Nat} (hl : nn ≤ 1000000) (rf : Rw) (u : Int32) {Z : State → Prop} (kx : ∀ (σ1 : xS), Rel σ1 28 rf → Fr (wS 28) σ σ1 → Y x 77 [some (.ref 0), some (.int u), some (.int (nI nn)), some (.int (nI nn))] [] σ1 τ 0 0 Z) : ∀ n k : Nat, k + n = nn → ∀ (q : Rw) (e t1 : Nat), Inv q R ns nr e t1 (t1 + 1) → Sk q → t1 + n ≤ 1000000 → mMinN q n = rf → ∀ σ1 : xS, Rel σ1 28 q → Fr (wS 28) σ σ1 → Y x 58 [some (.ref 0), some (.int u), some (.int (nI nn)), some (.int (nI k))] [] σ1 τ 0 0 Z := by
  intro n
  induction n with
  | zero =>
    intro k hk
    intro q e t1 Iq hsq ht1 hf σ1 hR1 hF1
    have hB : isW 28 := Or.inr (Or.inl rfl)
    simp only [mMinN] at hf
    refine y_iload_n C dX8_smokeAfter_58 rfl ?_
    refine y_iload_n C dX8_smokeAfter_59 rfl ?_
    refine y_icmp_ge (t := 77) C dX8_smokeAfter_60 (by decide) (fun c60 => ?_) (fun c60 => absurd (by rw [show k = nn by omega]; exact Int32.le_refl _) c60)
    obtain rfl : k = nn := by omega
    exact kx σ1 (hf ▸ hR1) hF1
  | succ n ih =>
    intro k hk
    intro q e t1 Iq hsq ht1 hf σ1 hR1 hF1
    have hB : isW 28 := Or.inr (Or.inl rfl)
    simp only [mMinN] at hf
    refine y_iload_n C dX8_smokeAfter_58 rfl ?_
    refine y_iload_n C dX8_smokeAfter_59 rfl ?_
    refine y_icmp_ge (t := 77) C dX8_smokeAfter_60 (by decide) (fun c60 => absurd c60 (nI_ge (by omega) (by omega))) (fun c60 => ?_)
    refine y_aload_n C dX8_smokeAfter_63 rfl ?_
    refine g_X8_thought C dX8_smokeAfter_64 (by decide +kernel) (by decide +kernel) ?_
    refine y_callVi C (e_X7_letMinutePass hB _ _ hR1 Iq hsq (by omega)) dX8_smokeAfter_67 rfl gX8_smokeAfter_X7_letMinutePass rfl (is_X7 hB) ⟨rfl, qX7_letMinutePass⟩ ⟨rfl, rfl⟩ ⟨Nat.le_of_ble_eq_true rfl, Nat.le_of_ble_eq_true rfl⟩ rfl (Nat.le_of_ble_eq_true rfl) ⟨Nat.zero_le _, Nat.zero_le _⟩ (fun v2 σ2 τ2 hq => ?_)
    obtain ⟨rfl, hR2, hF2, rfl⟩ := hq
    refine y_pop C dX8_smokeAfter_70 rfl ?_
    refine y_iinc C dX8_smokeAfter_71 (L' := [_, _, _, _]) rfl (nI_1 k) rfl ?_
    refine y_goto (t := 58) C dX8_smokeAfter_74 (by decide) ?_
    exact ih (k + 1) (by omega) (mMin q) (e - mDue (upd q 7 (q 7 + 1))) (t1 + 1) (Iq.min hsq (by omega)) (Sk.min Iq hsq (by omega)) (by omega) hf σ2 hR2 (hF1.trans hF2)
set_option maxHeartbeats 4000000 in
set_option maxRecDepth 100000 in
theorem e_X8_smokeAfter (σ : xS) (τ : xT) {r : Rw} {R ns nr ne t kp : Nat} {qs : Nat → Rw} (hR : Rel σ 1 r) (hC : Rc σ kp qs) (hk : kp ≤ 4) (I : Inv r R ns nr ne t (t + 1)) (hs : Sk r) (ht : t + 200 ≤ 1000000) (u v : Int32) : Zi mX8_smokeAfter [.ref 0, .int u, .int v] σ τ (fun y σ1 τ1 => kRW r u v 1 200 = 0 ∧ y = (mMinN r (cN v) (20 + cN u)) ∧ Cl σ σ1 τ τ1 (r) (kp) (qs)) (fun E => (E = eIO ∧ kRW r u v 1 200 = 1) ∨ (E = eIA ∧ kRW r u v 1 200 = 2)) := by
  have hB : isW 1 := Or.inl rfl
  have hR4 := I.1.1.2
  have hs8 := I.1.2.1.2
  have hr8 := I.1.2.2.1.2
  have he20 := I.1.2.2.2.1.2
  have hB2 : isW 28 := Or.inr (Or.inl rfl)
  have hBB : 28 + 27 ≤ 1 ∨ 1 + 27 ≤ 28 := Or.inr (by decide)
  refine Zi_mk (L := [some (.ref 0), some (.int u), some (.int v), none]) (by decide) rfl (Nat.le_of_ble_eq_true rfl) rfl (fun x C0 => ?_)
  have C := C0.1
  refine y_aload_n C dX8_smokeAfter_0 rfl ?_
  refine g_X8_now C dX8_smokeAfter_1 (by decide +kernel) (by decide +kernel) ?_
  refine g_X7_house C hB dX8_smokeAfter_4 (by decide +kernel) (by decide +kernel) ?_
  refine y_iload_n C dX8_smokeAfter_7 rfl ?_
  refine y_callVi C (e_X3_isRoom hB _ _ hR _) dX8_smokeAfter_8 rfl gX8_smokeAfter_X3_isRoom rfl (is_X3 hB) ⟨rfl, qX3_isRoom⟩ ⟨rfl, rfl⟩ ⟨Nat.le_of_ble_eq_true rfl, Nat.le_of_ble_eq_true rfl⟩ rfl (Nat.le_of_ble_eq_true rfl) ⟨Nat.zero_le _, Nat.zero_le _⟩ (fun v1 σ1 τ1 hq => ?_)
  obtain ⟨rfl, rfl, rfl⟩ := hq
  refine y_if_ne (t := 24) C dX8_smokeAfter_11 (by decide) (fun c11 => ?_) (fun c11 => ?_)
  · -- t
    refine y_iload_n C dX8_smokeAfter_24 rfl ?_
    refine y_iconst (v := 1) C dX8_smokeAfter_25 (by decide) ?_
    refine y_sipush (v := 200) C dX8_smokeAfter_26 (by decide) ?_
    refine y_callSi C (e_X8_isWithin _ _ _ _ _) dX8_smokeAfter_29 rfl gX8_smokeAfter_X8_isWithin rfl qX8_isWithin ⟨rfl, rfl⟩ ⟨Nat.le_of_ble_eq_true rfl, Nat.le_of_ble_eq_true rfl⟩ rfl (Nat.le_of_ble_eq_true rfl) ⟨Nat.zero_le _, Nat.zero_le _⟩ (fun v1 σ1 τ1 hq => ?_)
    obtain ⟨rfl, rfl, rfl⟩ := hq
    refine y_if_ne (t := 45) C dX8_smokeAfter_32 (by decide) (fun c32 => ?_) (fun c32 => ?_)
    · -- t
      obtain ⟨i, hi, rfl⟩ := room_of I c11
      obtain ⟨w, hw1, hw, rfl⟩ := with1 200 (by decide) rfl c32
      rw [cN_nI (n := i) (by omega), cN_nI (n := w) (by omega)]
      refine y_aload_n C dX8_smokeAfter_45 rfl ?_
      refine g_X8_thought C dX8_smokeAfter_46 (by decide +kernel) (by decide +kernel) ?_
      refine y_aload_n C dX8_smokeAfter_49 rfl ?_
      refine g_X8_now C dX8_smokeAfter_50 (by decide +kernel) (by decide +kernel) ?_
      refine y_callVv C (e_copy hB2 hB hBB _ _ hR I.jam) dX8_smokeAfter_53 rfl gX8_smokeAfter_X7_copyFrom rfl (is_X7 hB2) ⟨rfl, qX7_copyFrom⟩ ⟨rfl, rfl⟩ ⟨Nat.le_of_ble_eq_true rfl, Nat.le_of_ble_eq_true rfl⟩ rfl (Nat.le_of_ble_eq_true rfl) ⟨Nat.zero_le _, Nat.zero_le _⟩ (fun σ2 τ2 hq => ?_)
      obtain ⟨hR2, hF2, rfl⟩ := hq
      refine y_iconst (v := 0) C dX8_smokeAfter_56 (by decide) ?_
      refine y_istore_n C dX8_smokeAfter_57 (L' := [_, _, _, _]) (Nat.lt_of_lt_of_le (by decide : (3 : Nat) < 4) (Nat.le_refl _)) rfl ?_
      refine l_X8_smokeAfter C σ2 τ (by omega) (mMinN r w) _ (fun σ3 hR3 hF3 => ?_) w 0 (Nat.zero_add _) r ne t I hs (by omega) rfl σ2 hR2 Fr.rf
      have hF9 := hF2.trans hF3
      refine y_aload_n C dX8_smokeAfter_77 rfl ?_
      refine g_X8_thought C dX8_smokeAfter_78 (by decide +kernel) (by decide +kernel) ?_
      refine g_X7_house C hB2 dX8_smokeAfter_81 (by decide +kernel) (by decide +kernel) ?_
      refine g_X3_smoke C hB2 dX8_smokeAfter_84 (by decide +kernel) (by decide +kernel) ?_
      refine y_iload_n C dX8_smokeAfter_87 rfl ?_
      refine aR C hB2 hR3 (20 + i) 2 i 4 (pl_lo20 _ (by omega)) (lv_l (by omega) (by omega)) (by decide) rfl (by decide) rfl (by omega) dX8_smokeAfter_88 ?_
      exact z_iret C rfl dX8_smokeAfter_89 (⟨by unfold kRW; rw [if_neg c11, if_neg c32], rfl, ⟨hR.k28 hF9, hC.k28 hF9, hF9.mono cS_28, rfl⟩⟩)
    · -- f
      exact z_thr C0 rfl (ik := 30) (ic := 34) (cls := eIA) (by decide) twX8_smokeAfter_a (is := 247) (text := "n is not 1 to 200") (by decide +kernel) dX8_smokeAfter_35 dX8_smokeAfter_38 dX8_smokeAfter_39 dX8_smokeAfter_41 dX8_smokeAfter_44 ⟨Nat.le_of_ble_eq_true rfl, Nat.le_of_ble_eq_true rfl, Nat.le_refl _, Nat.le_refl _⟩ rfl (Or.inr ⟨rfl, by unfold kRW; rw [if_neg c11, if_pos c32]⟩)
  · -- f
    exact z_thr C0 rfl (ik := 59) (ic := 63) (cls := eIO) (by decide) twX8_smokeAfter_b (is := 61) (text := "there is no such room") (by decide +kernel) dX8_smokeAfter_14 dX8_smokeAfter_17 dX8_smokeAfter_18 dX8_smokeAfter_20 dX8_smokeAfter_23 ⟨Nat.le_of_ble_eq_true rfl, Nat.le_of_ble_eq_true rfl, Nat.le_refl _, Nat.le_refl _⟩ rfl (Or.inl ⟨rfl, by unfold kRW; rw [if_pos c11]⟩)
set_option maxHeartbeats 4000000 in
set_option maxRecDepth 100000 in
theorem l_X9_smokeAfter {x : xC} (C : Cx x mX9_smokeAfter) (σ : xS) (τ : xT) {R ns nr nn : Nat} (hl : nn ≤ 1000000) (rf : Rw) (u : Int32) {Z : State → Prop} (kx : ∀ (σ1 : xS) (v4 : Option Value), σ1 166 = rf → Fr (fun q => q = 166 ∨ q = 169) σ σ1 → Y x 56 [some (.ref 165), some (.int u), some (.int (nI nn)), some (.int (nI nn)), v4] [] σ1 τ 0 0 Z) : ∀ n k : Nat, k + n = nn → ∀ (q : Rw) (e t1 : Nat) (v4 : Option Value), Inv q R ns nr e t1 (t1 + 1) → Sk q → t1 + n ≤ 1000000 → mMinN q n = rf → ∀ σ1 : xS, σ1 166 = q → Fr (fun q => q = 166 ∨ q = 169) σ σ1 → Y x 39 [some (.ref 165), some (.int u), some (.int (nI nn)), some (.int (nI k)), v4] [] σ1 τ 0 0 Z := by
  intro n
  induction n with
  | zero =>
    intro k hk
    intro q e t1 v4 Iq hsq ht1 hf σ1 hM1 hF1
    simp only [mMinN] at hf
    refine y_iload_n C dX9_smokeAfter_39 rfl ?_
    refine y_iload_n C dX9_smokeAfter_40 rfl ?_
    refine y_icmp_ge (t := 56) C dX9_smokeAfter_41 (by decide) (fun c41 => ?_) (fun c41 => absurd (by rw [show k = nn by omega]; exact Int32.le_refl _) c41)
    obtain rfl : k = nn := by omega
    exact kx σ1 _ (hM1.trans hf) hF1
  | succ n ih =>
    intro k hk
    intro q e t1 v4 Iq hsq ht1 hf σ1 hM1 hF1
    simp only [mMinN] at hf
    refine y_iload_n C dX9_smokeAfter_39 rfl ?_
    refine y_iload_n C dX9_smokeAfter_40 rfl ?_
    refine y_icmp_ge (t := 56) C dX9_smokeAfter_41 (by decide) (fun c41 => absurd c41 (nI_ge (by omega) (by omega))) (fun c41 => ?_)
    refine y_aload_n C dX9_smokeAfter_44 rfl ?_
    refine y_callVi C (e_X9_minutes _ _ hM1 Iq hsq (by omega)) dX9_smokeAfter_45 rfl gX9_smokeAfter_X9_minutes rfl (is_X9) ⟨rfl, qX9_minutes⟩ ⟨rfl, rfl⟩ ⟨Nat.le_of_ble_eq_true rfl, Nat.le_of_ble_eq_true rfl⟩ rfl (Nat.le_of_ble_eq_true rfl) ⟨Nat.zero_le _, Nat.zero_le _⟩ (fun v2 σ2 τ2 hq => ?_)
    obtain ⟨rfl, hM2, hF2, rfl⟩ := hq
    refine y_istore C dX9_smokeAfter_48 (L' := [_, _, _, _, _]) (Nat.lt_of_lt_of_le (by decide : (4 : Nat) < 5) (Nat.le_refl _)) rfl ?_
    refine y_iinc C dX9_smokeAfter_50 (L' := [_, _, _, _, _]) rfl (nI_1 k) rfl ?_
    refine y_goto (t := 39) C dX9_smokeAfter_53 (by decide) ?_
    exact ih (k + 1) (by omega) (mMin q) (e - mDue (upd q 7 (q 7 + 1))) (t1 + 1) _ (Iq.min hsq (by omega)) (Sk.min Iq hsq (by omega)) (by omega) hf σ2 hM2 (hF1.trans hF2)
set_option maxHeartbeats 4000000 in
set_option maxRecDepth 100000 in
theorem e_X9_smokeAfter (σ : xS) (τ : xT) {r : Rw} {R ns nr ne t kp : Nat} {qs : Nat → Rw} (hM : σ 166 = r) (hC : RecM σ kp qs) (hk : kp ≤ 4) (I : Inv r R ns nr ne t (t + 1)) (hs : Sk r) (ht : t + 200 ≤ 1000000) (u v : Int32) : Xi mX9_smokeAfter [.ref 165, .int u, .int v] σ τ (QM (kRW r u v 1 200) (mMinN r (cN v) (20 + cN u)) σ τ r kp qs (r) (kp) (qs)) := by
  have hR4 := I.1.1.2
  have hs8 := I.1.2.1.2
  have hr8 := I.1.2.2.1.2
  have he20 := I.1.2.2.2.1.2
  refine Xi_mk (L := [some (.ref 165), some (.int u), some (.int v), none, none]) (by decide) rfl (Nat.le_of_ble_eq_true rfl) rfl (fun x C => ?_)
  refine y_aload_n C dX9_smokeAfter_0 rfl ?_
  refine y_join (t := 25) (v := .int (kRW r u v 1 200)) ?_ (fun K1 => ?_)
  ·
    refine y_callVi C (e_X9_refused _ _ hM hC _) dX9_smokeAfter_25 rfl gX9_smokeAfter_X9_refused rfl (is_X9) ⟨rfl, qX9_refused⟩ ⟨rfl, rfl⟩ ⟨Nat.le_of_ble_eq_true rfl, Nat.le_of_ble_eq_true rfl⟩ rfl (Nat.le_of_ble_eq_true rfl) ⟨Nat.zero_le _, Nat.zero_le _⟩ (fun v1 σ1 τ1 hq => ?_)
    obtain ⟨rfl, hM1, hC1, hr1, hF1, rfl⟩ := hq
    refine y_if_eq (t := 33) C dX9_smokeAfter_28 (by decide) (fun c28 => ?_) (fun c28 => ?_)
    · -- t
      have hk0 : kRW r u v 1 200 = 0 := (ref0 (kRW_p _ _ _ _ _)).mp c28
      obtain ⟨i, hi, rfl⟩ := room_of I (kRW_0 hk0).1
      obtain ⟨w, hw1, hw, rfl⟩ := with1 200 (by decide) rfl (kRW_0 hk0).2
      rw [cN_nI (n := i) (by omega), cN_nI (n := w) (by omega)]
      refine y_aload_n C dX9_smokeAfter_33 rfl ?_
      refine y_callVv C (e_keepsR _ _ hM1) dX9_smokeAfter_34 rfl gX9_smokeAfter_X9_keeps rfl (is_X9) ⟨rfl, qX9_keeps⟩ ⟨rfl, rfl⟩ ⟨Nat.le_of_ble_eq_true rfl, Nat.le_of_ble_eq_true rfl⟩ rfl (Nat.le_of_ble_eq_true rfl) ⟨Nat.zero_le _, Nat.zero_le _⟩ (fun σ2 τ2 hq => ?_)
      obtain ⟨hK2, hF2, rfl⟩ := hq
      have hM2 : σ2 166 = r := by rw [hF2 166 (by decide)]; exact hM1
      refine y_iconst (v := 0) C dX9_smokeAfter_37 (by decide) ?_
      refine y_istore_n C dX9_smokeAfter_38 (L' := [_, _, _, _, _]) (Nat.lt_of_lt_of_le (by decide : (3 : Nat) < 5) (Nat.le_refl _)) rfl ?_
      refine l_X9_smokeAfter C σ2 τ (by omega) (mMinN r w) _ (fun σ3 v4 hM3 hF3 => ?_) w 0 (Nat.zero_add _) r ne t _ I hs (by omega) rfl σ2 hM2 Fr.rf
      refine y_aload_n C dX9_smokeAfter_56 rfl ?_
      refine g_X9_now C dX9_smokeAfter_57 (by decide +kernel) (by decide +kernel) ?_
      refine y_bipush (v := 20) C dX9_smokeAfter_60 (by decide) ?_
      refine y_iload_n C dX9_smokeAfter_62 rfl ?_
      refine y_iadd C dX9_smokeAfter_63 ?_
      refine mA C hM3 (20 + i) (nI_add 20 i) (by omega) dX9_smokeAfter_64 ?_
      refine y_istore_n C dX9_smokeAfter_65 (L' := [_, _, _, _, _]) (Nat.lt_of_lt_of_le (by decide : (3 : Nat) < 5) (Nat.le_refl _)) rfl ?_
      refine y_aload_n C dX9_smokeAfter_66 rfl ?_
      refine y_callVv C (e_returnsR _ _ (show σ3 168 = r by rw [hF3 168 (by decide)]; exact hK2)) dX9_smokeAfter_67 rfl gX9_smokeAfter_X9_returns rfl (is_X9) ⟨rfl, qX9_returns⟩ ⟨rfl, rfl⟩ ⟨Nat.le_of_ble_eq_true rfl, Nat.le_of_ble_eq_true rfl⟩ rfl (Nat.le_of_ble_eq_true rfl) ⟨Nat.zero_le _, Nat.zero_le _⟩ (fun σ5 τ5 hq => ?_)
      obtain ⟨hM5, hF5, rfl⟩ := hq
      refine y_iload_n C dX9_smokeAfter_70 rfl ?_
      exact y_iret C rfl dX9_smokeAfter_71 (⟨by rw [hF5 165 (by decide), hF3 165 (by decide), hF2 165 (by decide)]; exact hr1, Or.inl ⟨hk0, rfl, hM5, ((hC1.k8 hF2).k69 hF3).k6 hF5, (((hF1.mono mS_5).trans (hF2.mono mS_8)).trans (hF3.mono mS_69)).trans (hF5.mono mS_6), rfl⟩⟩)
    · -- f
      have hkn : ¬ kRW r u v 1 200 = 0 := fun z => c28 ((ref0 (kRW_p _ _ _ _ _)).mpr z)
      refine y_iconst (v := 0) C dX9_smokeAfter_31 (by decide) ?_
      exact y_iret C rfl dX9_smokeAfter_32 (⟨hr1, Or.inr ⟨hkn, hM1, hC1, hF1.mono mS_5, rfl⟩⟩)
  ·
    refine y_aload_n C dX9_smokeAfter_1 rfl ?_
    refine y_iload_n C dX9_smokeAfter_2 rfl ?_
    refine y_callVi C (e_X9_isRoomR _ _ hM I _) dX9_smokeAfter_3 rfl gX9_smokeAfter_X9_isRoom rfl (is_X9) ⟨rfl, qX9_isRoom⟩ ⟨rfl, rfl⟩ ⟨Nat.le_of_ble_eq_true rfl, Nat.le_of_ble_eq_true rfl⟩ rfl (Nat.le_of_ble_eq_true rfl) ⟨Nat.zero_le _, Nat.zero_le _⟩ (fun v1 σ1 τ1 hq => ?_)
    obtain ⟨rfl, rfl, rfl⟩ := hq
    refine y_if_ne (t := 13) C dX9_smokeAfter_6 (by decide) (fun c6 => ?_) (fun c6 => ?_)
    · -- t
      refine y_iload_n C dX9_smokeAfter_13 rfl ?_
      refine y_callSi C (e_X9_isAhead _ _ _) dX9_smokeAfter_14 rfl gX9_smokeAfter_X9_isAhead rfl qX9_isAhead ⟨rfl, rfl⟩ ⟨Nat.le_of_ble_eq_true rfl, Nat.le_of_ble_eq_true rfl⟩ rfl (Nat.le_of_ble_eq_true rfl) ⟨Nat.zero_le _, Nat.zero_le _⟩ (fun v1 σ1 τ1 hq => ?_)
      obtain ⟨rfl, rfl, rfl⟩ := hq
      refine y_if_ne (t := 24) C dX9_smokeAfter_17 (by decide) (fun c17 => ?_) (fun c17 => ?_)
      · -- t
        refine y_iconst (v := 0) C dX9_smokeAfter_24 (by decide) ?_
        exact y_kE K1 (by unfold kRW; first | (rw [if_pos c6]; done) | (rw [if_neg c6, if_pos c17]; done) | (rw [if_neg c6, if_neg c17]; done))
      · -- f
        refine y_iconst (v := 2) C dX9_smokeAfter_20 (by decide) ?_
        refine y_goto (t := 25) C dX9_smokeAfter_21 (by decide) ?_
        exact y_kE K1 (by unfold kRW; first | (rw [if_pos c6]; done) | (rw [if_neg c6, if_pos c17]; done) | (rw [if_neg c6, if_neg c17]; done))
    · -- f
      refine y_iconst (v := 1) C dX9_smokeAfter_9 (by decide) ?_
      refine y_goto (t := 25) C dX9_smokeAfter_10 (by decide) ?_
      exact y_kE K1 (by unfold kRW; first | (rw [if_pos c6]; done) | (rw [if_neg c6, if_pos c17]; done) | (rw [if_neg c6, if_neg c17]; done))
set_option maxHeartbeats 4000000 in
set_option maxRecDepth 100000 in
theorem e_X8_peak (σ : xS) (τ : xT) {r : Rw} {R ns nr ne t kp : Nat} {qs : Nat → Rw} (hR : Rel σ 1 r) (hC : Rc σ kp qs) (hk : kp ≤ 4) (I : Inv r R ns nr ne t (t + 1)) (hs : Sk r) (ht : t + 200 ≤ 1000000) (u o v : Int32) : Zi mX8_peak [.ref 0, .int u, .int o, .int v] σ τ (fun y σ1 τ1 => kPeak r u o v = 0 ∧ y = (mPk r (cN u) o (cN v)) ∧ Cl σ σ1 τ τ1 (r) (kp) (qs)) (fun E => (E = eIO ∧ kPeak r u o v = 1) ∨ (E = eIA ∧ kPeak r u o v = 2)) := by
  have hB : isW 1 := Or.inl rfl
  have hR4 := I.1.1.2
  have hs8 := I.1.2.1.2
  have hr8 := I.1.2.2.1.2
  have he20 := I.1.2.2.2.1.2
  refine Zi_mk (L := [some (.ref 0), some (.int u), some (.int o), some (.int v)]) (by decide) rfl (Nat.le_of_ble_eq_true rfl) rfl (fun x C0 => ?_)
  have C := C0.1
  refine y_aload_n C dX8_peak_0 rfl ?_
  refine g_X8_now C dX8_peak_1 (by decide +kernel) (by decide +kernel) ?_
  refine g_X7_house C hB dX8_peak_4 (by decide +kernel) (by decide +kernel) ?_
  refine y_iload_n C dX8_peak_7 rfl ?_
  refine y_callVi C (e_X3_isRoom hB _ _ hR _) dX8_peak_8 rfl gX8_peak_X3_isRoom rfl (is_X3 hB) ⟨rfl, qX3_isRoom⟩ ⟨rfl, rfl⟩ ⟨Nat.le_of_ble_eq_true rfl, Nat.le_of_ble_eq_true rfl⟩ rfl (Nat.le_of_ble_eq_true rfl) ⟨Nat.zero_le _, Nat.zero_le _⟩ (fun v1 σ1 τ1 hq => ?_)
  obtain ⟨rfl, rfl, rfl⟩ := hq
  refine y_if_ne (t := 24) C dX8_peak_11 (by decide) (fun c11 => ?_) (fun c11 => ?_)
  · -- t
    refine y_iload_n C dX8_peak_24 rfl ?_
    refine y_iconst (v := 0) C dX8_peak_25 (by decide) ?_
    refine y_bipush (v := 8) C dX8_peak_26 (by decide) ?_
    refine y_callSi C (e_X8_isWithin _ _ _ _ _) dX8_peak_28 rfl gX8_peak_X8_isWithin rfl qX8_isWithin ⟨rfl, rfl⟩ ⟨Nat.le_of_ble_eq_true rfl, Nat.le_of_ble_eq_true rfl⟩ rfl (Nat.le_of_ble_eq_true rfl) ⟨Nat.zero_le _, Nat.zero_le _⟩ (fun v1 σ1 τ1 hq => ?_)
    obtain ⟨rfl, rfl, rfl⟩ := hq
    refine y_if_eq (t := 45) C dX8_peak_31 (by decide) (fun c31 => ?_) (fun c31 => ?_)
    · -- t
      exact z_thr C0 rfl (ik := 30) (ic := 34) (cls := eIA) (by decide) twX8_peak_a (is := 249) (text := "opening is not 0 to 8, or n is not 1 to 200") (by decide +kernel) dX8_peak_45 dX8_peak_48 dX8_peak_49 dX8_peak_51 dX8_peak_54 ⟨Nat.le_of_ble_eq_true rfl, Nat.le_of_ble_eq_true rfl, Nat.le_refl _, Nat.le_refl _⟩ rfl (Or.inr ⟨rfl, by unfold kPeak; rw [if_neg c11, if_pos (by first | exact Or.inl c31 | exact Or.inr c42)]⟩)
    · -- f
      refine y_iload_n C dX8_peak_34 rfl ?_
      refine y_iconst (v := 1) C dX8_peak_35 (by decide) ?_
      refine y_sipush (v := 200) C dX8_peak_36 (by decide) ?_
      refine y_callSi C (e_X8_isWithin _ _ _ _ _) dX8_peak_39 rfl gX8_peak_X8_isWithin rfl qX8_isWithin ⟨rfl, rfl⟩ ⟨Nat.le_of_ble_eq_true rfl, Nat.le_of_ble_eq_true rfl⟩ rfl (Nat.le_of_ble_eq_true rfl) ⟨Nat.zero_le _, Nat.zero_le _⟩ (fun v1 σ1 τ1 hq => ?_)
      obtain ⟨rfl, rfl, rfl⟩ := hq
      refine y_if_ne (t := 55) C dX8_peak_42 (by decide) (fun c42 => ?_) (fun c42 => ?_)
      · -- t
        obtain ⟨i, hi, rfl⟩ := room_of I c11
        obtain ⟨w, hw1, hw, rfl⟩ := with1 200 (by decide) rfl c42
        rw [cN_nI (n := i) (by omega), cN_nI (n := w) (by omega)]
        refine y_aload_n C dX8_peak_55 rfl ?_
        refine y_iload_n C dX8_peak_56 rfl ?_
        refine y_iload_n C dX8_peak_57 rfl ?_
        refine y_iload_n C dX8_peak_58 rfl ?_
        refine y_callVi C (e_X8_greatestSmoke _ _ hR I hs i w hi (by omega) o (w8 c31)) dX8_peak_59 rfl gX8_peak_X8_greatestSmoke rfl (is_X8) ⟨rfl, qX8_greatestSmoke⟩ ⟨rfl, rfl⟩ ⟨Nat.le_of_ble_eq_true rfl, Nat.le_of_ble_eq_true rfl⟩ rfl (Nat.le_of_ble_eq_true rfl) ⟨Nat.zero_le _, Nat.zero_le _⟩ (fun v9 σ9 τ9 hq => ?_)
        obtain ⟨rfl, hF9, rfl⟩ := hq
        exact z_iret C rfl dX8_peak_62 (⟨by unfold kPeak; rw [if_neg c11, if_neg (fun z => z.elim c31 c42)], rfl, ⟨hR.k28 hF9, hC.k28 hF9, hF9.mono cS_28, rfl⟩⟩)
      · -- f
        exact z_thr C0 rfl (ik := 30) (ic := 34) (cls := eIA) (by decide) twX8_peak_a (is := 249) (text := "opening is not 0 to 8, or n is not 1 to 200") (by decide +kernel) dX8_peak_45 dX8_peak_48 dX8_peak_49 dX8_peak_51 dX8_peak_54 ⟨Nat.le_of_ble_eq_true rfl, Nat.le_of_ble_eq_true rfl, Nat.le_refl _, Nat.le_refl _⟩ rfl (Or.inr ⟨rfl, by unfold kPeak; rw [if_neg c11, if_pos (by first | exact Or.inl c31 | exact Or.inr c42)]⟩)
  · -- f
    exact z_thr C0 rfl (ik := 59) (ic := 63) (cls := eIO) (by decide) twX8_peak_b (is := 61) (text := "there is no such room") (by decide +kernel) dX8_peak_14 dX8_peak_17 dX8_peak_18 dX8_peak_20 dX8_peak_23 ⟨Nat.le_of_ble_eq_true rfl, Nat.le_of_ble_eq_true rfl, Nat.le_refl _, Nat.le_refl _⟩ rfl (Or.inl ⟨rfl, by unfold kPeak; rw [if_pos c11]⟩)
set_option maxHeartbeats 4000000 in
set_option maxRecDepth 100000 in
theorem e_X9_peak (σ : xS) (τ : xT) {r : Rw} {R ns nr ne t kp : Nat} {qs : Nat → Rw} (hM : σ 166 = r) (hC : RecM σ kp qs) (hk : kp ≤ 4) (I : Inv r R ns nr ne t (t + 1)) (hs : Sk r) (ht : t + 200 ≤ 1000000) (u o v : Int32) : Xi mX9_peak [.ref 165, .int u, .int o, .int v] σ τ (QM (kPeak r u o v) (mPk r (cN u) o (cN v)) σ τ r kp qs (r) (kp) (qs)) := by
  have hR4 := I.1.1.2
  have hs8 := I.1.2.1.2
  have hr8 := I.1.2.2.1.2
  have he20 := I.1.2.2.2.1.2
  refine Xi_mk (L := [some (.ref 165), some (.int u), some (.int o), some (.int v)]) (by decide) rfl (Nat.le_of_ble_eq_true rfl) rfl (fun x C => ?_)
  refine y_aload_n C dX9_peak_0 rfl ?_
  refine y_join (t := 35) (v := .int (kPeak r u o v)) ?_ (fun K1 => ?_)
  ·
    refine y_callVi C (e_X9_refused _ _ hM hC _) dX9_peak_35 rfl gX9_peak_X9_refused rfl (is_X9) ⟨rfl, qX9_refused⟩ ⟨rfl, rfl⟩ ⟨Nat.le_of_ble_eq_true rfl, Nat.le_of_ble_eq_true rfl⟩ rfl (Nat.le_of_ble_eq_true rfl) ⟨Nat.zero_le _, Nat.zero_le _⟩ (fun v1 σ1 τ1 hq => ?_)
    obtain ⟨rfl, hM1, hC1, hr1, hF1, rfl⟩ := hq
    refine y_if_eq (t := 45) C dX9_peak_38 (by decide) (fun c38 => ?_) (fun c38 => ?_)
    · -- t
      have hk0 : kPeak r u o v = 0 := (ref0 (kPeak_p _ _ _ _)).mp c38
      obtain ⟨i, hi, rfl⟩ := room_of I (kPeak_0 hk0).1
      obtain ⟨w, hw1, hw, rfl⟩ := with1 200 (by decide) rfl (fun z => (kPeak_0 hk0).2 (Or.inr z))
      rw [cN_nI (n := i) (by omega), cN_nI (n := w) (by omega)]
      refine y_aload_n C dX9_peak_45 rfl ?_
      refine y_iload_n C dX9_peak_46 rfl ?_
      refine y_iload_n C dX9_peak_47 rfl ?_
      refine y_iload_n C dX9_peak_48 rfl ?_
      refine y_callVi C (e_X9_peakOf _ _ hM1 I hs i w hi (by omega) o (w8 (fun z => (kPeak_0 hk0).2 (Or.inl z)))) dX9_peak_49 rfl gX9_peak_X9_peakOf rfl (is_X9) ⟨rfl, qX9_peakOf⟩ ⟨rfl, rfl⟩ ⟨Nat.le_of_ble_eq_true rfl, Nat.le_of_ble_eq_true rfl⟩ rfl (Nat.le_of_ble_eq_true rfl) ⟨Nat.zero_le _, Nat.zero_le _⟩ (fun v2 σ2 τ2 hq => ?_)
      obtain ⟨rfl, hM2, hF2, rfl⟩ := hq
      exact y_iret C rfl dX9_peak_52 (by first | exact ⟨hr1, Or.inr ⟨hkn, hM1, hC1, hF1.mono mS_5, rfl⟩⟩ | exact ⟨by rw [hF2 165 (by decide)]; exact hr1, Or.inl ⟨hk0, rfl, hM2, hC1.k689 hF2, (hF1.mono mS_5).trans (hF2.mono mS_689), rfl⟩⟩)
    · -- f
      have hkn : ¬ kPeak r u o v = 0 := fun z => c38 ((ref0 (kPeak_p _ _ _ _)).mpr z)
      refine y_iconst (v := 0) C dX9_peak_41 (by decide) ?_
      refine y_goto (t := 52) C dX9_peak_42 (by decide) ?_
      exact y_iret C rfl dX9_peak_52 (by first | exact ⟨hr1, Or.inr ⟨hkn, hM1, hC1, hF1.mono mS_5, rfl⟩⟩ | exact ⟨by rw [hF2 165 (by decide)]; exact hr1, Or.inl ⟨hk0, rfl, hM2, hC1.k689 hF2, (hF1.mono mS_5).trans (hF2.mono mS_689), rfl⟩⟩)
  ·
    refine y_aload_n C dX9_peak_1 rfl ?_
    refine y_iload_n C dX9_peak_2 rfl ?_
    refine y_callVi C (e_X9_isRoomR _ _ hM I _) dX9_peak_3 rfl gX9_peak_X9_isRoom rfl (is_X9) ⟨rfl, qX9_isRoom⟩ ⟨rfl, rfl⟩ ⟨Nat.le_of_ble_eq_true rfl, Nat.le_of_ble_eq_true rfl⟩ rfl (Nat.le_of_ble_eq_true rfl) ⟨Nat.zero_le _, Nat.zero_le _⟩ (fun v1 σ1 τ1 hq => ?_)
    obtain ⟨rfl, rfl, rfl⟩ := hq
    refine y_if_ne (t := 13) C dX9_peak_6 (by decide) (fun c6 => ?_) (fun c6 => ?_)
    · -- t
      refine y_iload_n C dX9_peak_13 rfl ?_
      refine y_iconst (v := 0) C dX9_peak_14 (by decide) ?_
      refine y_bipush (v := 8) C dX9_peak_15 (by decide) ?_
      refine y_callSi C (e_X9_within _ _ _ _ _) dX9_peak_17 rfl gX9_peak_X9_within rfl qX9_within ⟨rfl, rfl⟩ ⟨Nat.le_of_ble_eq_true rfl, Nat.le_of_ble_eq_true rfl⟩ rfl (Nat.le_of_ble_eq_true rfl) ⟨Nat.zero_le _, Nat.zero_le _⟩ (fun v1 σ1 τ1 hq => ?_)
      obtain ⟨rfl, rfl, rfl⟩ := hq
      refine y_if_eq (t := 30) C dX9_peak_20 (by decide) (fun c20 => ?_) (fun c20 => ?_)
      · -- t
        refine y_iconst (v := 2) C dX9_peak_30 (by decide) ?_
        refine y_goto (t := 35) C dX9_peak_31 (by decide) ?_
        exact y_kE K1 (by unfold kPeak; first | (rw [if_pos c6]; done) | (rw [if_neg c6, if_pos (by first | exact Or.inl c20 | exact Or.inr c27)]; done) | (rw [if_neg c6, if_neg (fun z => z.elim c20 c27)]; done))
      · -- f
        refine y_iload_n C dX9_peak_23 rfl ?_
        refine y_callSi C (e_X9_isAhead _ _ _) dX9_peak_24 rfl gX9_peak_X9_isAhead rfl qX9_isAhead ⟨rfl, rfl⟩ ⟨Nat.le_of_ble_eq_true rfl, Nat.le_of_ble_eq_true rfl⟩ rfl (Nat.le_of_ble_eq_true rfl) ⟨Nat.zero_le _, Nat.zero_le _⟩ (fun v1 σ1 τ1 hq => ?_)
        obtain ⟨rfl, rfl, rfl⟩ := hq
        refine y_if_ne (t := 34) C dX9_peak_27 (by decide) (fun c27 => ?_) (fun c27 => ?_)
        · -- t
          refine y_iconst (v := 0) C dX9_peak_34 (by decide) ?_
          exact y_kE K1 (by unfold kPeak; first | (rw [if_pos c6]; done) | (rw [if_neg c6, if_pos (by first | exact Or.inl c20 | exact Or.inr c27)]; done) | (rw [if_neg c6, if_neg (fun z => z.elim c20 c27)]; done))
        · -- f
          refine y_iconst (v := 2) C dX9_peak_30 (by decide) ?_
          refine y_goto (t := 35) C dX9_peak_31 (by decide) ?_
          exact y_kE K1 (by unfold kPeak; first | (rw [if_pos c6]; done) | (rw [if_neg c6, if_pos (by first | exact Or.inl c20 | exact Or.inr c27)]; done) | (rw [if_neg c6, if_neg (fun z => z.elim c20 c27)]; done))
    · -- f
      refine y_iconst (v := 1) C dX9_peak_9 (by decide) ?_
      refine y_goto (t := 35) C dX9_peak_10 (by decide) ?_
      exact y_kE K1 (by unfold kPeak; first | (rw [if_pos c6]; done) | (rw [if_neg c6, if_pos (by first | exact Or.inl c20 | exact Or.inr c27)]; done) | (rw [if_neg c6, if_neg (fun z => z.elim c20 c27)]; done))
set_option maxHeartbeats 4000000 in
set_option maxRecDepth 100000 in
theorem l_X8_bestOpening {x : xC} (C : Cx x mX8_bestOpening) (σ : xS) (τ : xT) {r : Rw} {R ns nr ne t w : Nat} (I : Inv r R ns nr ne t (t + 1)) (hs : Sk r) (ht : t + w ≤ 1000000) {Z : State → Prop} (kx : ∀ (σ1 : xS) (v4 v5 : Option Value), Fr (wS 28) σ σ1 → Y x 69 [some (.ref 0), some (.int (nI w)), some (.int (nI (mBe r w 8))), some (.int (mPk r 0 (nI (mBe r w 8)) w)), v4, v5] [] σ1 τ 0 0 Z) : ∀ n k : Nat, k + n = 8 → ∀ (v5 : Option Value) (σ1 : xS), Rel σ1 1 r → Fr (wS 28) σ σ1 → Y x 34 [some (.ref 0), some (.int (nI w)), some (.int (nI (mBe r w k))), some (.int (mPk r 0 (nI (mBe r w k)) w)), some (.int (nI (k + 1))), v5] [] σ1 τ 0 0 Z := by
  intro n
  induction n with
  | zero =>
    intro k hk
    intro v5 σ1 hR1 hF1
    refine y_iload C dX8_bestOpening_34 rfl ?_
    refine y_bipush (v := 8) C dX8_bestOpening_36 (by decide) ?_
    refine y_icmp_gt (t := 69) C dX8_bestOpening_38 (by decide) (fun c38 => ?_) (fun c38 => absurd (nI_lt (a := 8) (b := k + 1) (by omega) (by omega)) c38)
    obtain rfl : k = 8 := by omega
    exact kx σ1 _ _ hF1
  | succ n ih =>
    intro k hk
    intro v5 σ1 hR1 hF1
    refine y_iload C dX8_bestOpening_34 rfl ?_
    refine y_bipush (v := 8) C dX8_bestOpening_36 (by decide) ?_
    refine y_icmp_gt (t := 69) C dX8_bestOpening_38 (by decide) (fun c38 => absurd c38 (nI_nlt (a := 8) (b := k + 1) (by omega) (by omega))) (fun c38 => ?_)
    refine y_aload_n C dX8_bestOpening_41 rfl ?_
    refine y_iconst (v := 0) C dX8_bestOpening_42 (by decide) ?_
    refine y_iload C dX8_bestOpening_43 rfl ?_
    refine y_iload_n C dX8_bestOpening_45 rfl ?_
    refine y_callVi C (e_X8_greatestSmoke _ _ hR1 I hs 0 w I.1.1.2.1 ht (nI (k + 1)) (o8 (by omega))) dX8_bestOpening_46 rfl gX8_bestOpening_X8_greatestSmoke rfl (is_X8) ⟨rfl, qX8_greatestSmoke⟩ ⟨rfl, rfl⟩ ⟨Nat.le_of_ble_eq_true rfl, Nat.le_of_ble_eq_true rfl⟩ rfl (Nat.le_of_ble_eq_true rfl) ⟨Nat.zero_le _, Nat.zero_le _⟩ (fun v2 σ2 τ2 hq => ?_)
    obtain ⟨rfl, hF2, rfl⟩ := hq
    refine y_istore C dX8_bestOpening_49 (L' := [_, _, _, _, _, _]) (Nat.lt_of_lt_of_le (by decide : (5 : Nat) < 6) (Nat.le_refl _)) rfl ?_
    refine y_iload C dX8_bestOpening_51 rfl ?_
    refine y_iload_n C dX8_bestOpening_53 rfl ?_
    refine y_icmp_ge (t := 63) C dX8_bestOpening_54 (by decide) (fun kc54 => ?_) (fun kc54 => ?_)
    · -- t
      have hb : mBe r w (k + 1) = mBe r w k := by
        simp only [mBe]
        rw [if_neg (Int32.not_lt.mpr kc54)]
      refine y_iinc C dX8_bestOpening_63 (L' := [_, _, _, _, _, _]) rfl (nI_1 (k + 1)) rfl ?_
      refine y_goto (t := 34) C dX8_bestOpening_66 (by decide) ?_
      have h9 := ih (k + 1) (by omega) (some (.int (mPk r 0 (nI (k + 1)) w))) σ2 (hR1.k28 hF2) (hF1.trans hF2)
      rw [hb] at h9
      exact h9
    · -- f
      have hb : mBe r w (k + 1) = k + 1 := by
        simp only [mBe]
        rw [if_pos (Int32.not_le.mp kc54)]
      refine y_iload C dX8_bestOpening_57 rfl ?_
      refine y_istore_n C dX8_bestOpening_59 (L' := [_, _, _, _, _, _]) (Nat.lt_of_lt_of_le (by decide : (2 : Nat) < 6) (Nat.le_refl _)) rfl ?_
      refine y_iload C dX8_bestOpening_60 rfl ?_
      refine y_istore_n C dX8_bestOpening_62 (L' := [_, _, _, _, _, _]) (Nat.lt_of_lt_of_le (by decide : (3 : Nat) < 6) (Nat.le_refl _)) rfl ?_
      refine y_iinc C dX8_bestOpening_63 (L' := [_, _, _, _, _, _]) rfl (nI_1 (k + 1)) rfl ?_
      refine y_goto (t := 34) C dX8_bestOpening_66 (by decide) ?_
      have h9 := ih (k + 1) (by omega) (some (.int (mPk r 0 (nI (k + 1)) w))) σ2 (hR1.k28 hF2) (hF1.trans hF2)
      rw [hb] at h9
      exact h9
set_option maxHeartbeats 4000000 in
set_option maxRecDepth 100000 in
theorem e_X8_bestOpening (σ : xS) (τ : xT) {r : Rw} {R ns nr ne t kp : Nat} {qs : Nat → Rw} (hR : Rel σ 1 r) (hC : Rc σ kp qs) (hk : kp ≤ 4) (I : Inv r R ns nr ne t (t + 1)) (hs : Sk r) (ht : t + 200 ≤ 1000000) (u : Int32) : Zi mX8_bestOpening [.ref 0, .int u] σ τ (fun v σ1 τ1 => kW u 1 200 = 0 ∧ v = (nI (mBe r (cN u) 8)) ∧ Cl σ σ1 τ τ1 (r) (kp) (qs)) (fun E => E = eIA ∧ kW u 1 200 = 1) := by
  have hB : isW 1 := Or.inl rfl
  have hR4 := I.1.1.2
  have hs8 := I.1.2.1.2
  have hr8 := I.1.2.2.1.2
  have he20 := I.1.2.2.2.1.2
  refine Zi_mk (L := [some (.ref 0), some (.int u), none, none, none, none]) (by decide) rfl (Nat.le_of_ble_eq_true rfl) rfl (fun x C0 => ?_)
  have C := C0.1
  refine y_iload_n C dX8_bestOpening_0 rfl ?_
  refine y_iconst (v := 1) C dX8_bestOpening_1 (by decide) ?_
  refine y_sipush (v := 200) C dX8_bestOpening_2 (by decide) ?_
  refine y_callSi C (e_X8_isWithin _ _ _ _ _) dX8_bestOpening_5 rfl gX8_bestOpening_X8_isWithin rfl qX8_isWithin ⟨rfl, rfl⟩ ⟨Nat.le_of_ble_eq_true rfl, Nat.le_of_ble_eq_true rfl⟩ rfl (Nat.le_of_ble_eq_true rfl) ⟨Nat.zero_le _, Nat.zero_le _⟩ (fun v1 σ1 τ1 hq => ?_)
  obtain ⟨rfl, rfl, rfl⟩ := hq
  refine y_if_ne (t := 21) C dX8_bestOpening_8 (by decide) (fun c8 => ?_) (fun c8 => ?_)
  · -- t
    obtain ⟨w, hw1, hw, rfl⟩ := with1 200 (by decide) rfl c8
    rw [cN_nI (n := w) (by omega)]
    refine y_iconst (v := 0) C dX8_bestOpening_21 (by decide) ?_
    refine y_istore_n C dX8_bestOpening_22 (L' := [_, _, _, _, _, _]) (Nat.lt_of_lt_of_le (by decide : (2 : Nat) < 6) (Nat.le_refl _)) rfl ?_
    refine y_aload_n C dX8_bestOpening_23 rfl ?_
    refine y_iconst (v := 0) C dX8_bestOpening_24 (by decide) ?_
    refine y_iconst (v := 0) C dX8_bestOpening_25 (by decide) ?_
    refine y_iload_n C dX8_bestOpening_26 rfl ?_
    refine y_callVi C (e_X8_greatestSmoke _ _ hR I hs 0 w I.1.1.2.1 (by omega) 0 (by decide)) dX8_bestOpening_27 rfl gX8_bestOpening_X8_greatestSmoke rfl (is_X8) ⟨rfl, qX8_greatestSmoke⟩ ⟨rfl, rfl⟩ ⟨Nat.le_of_ble_eq_true rfl, Nat.le_of_ble_eq_true rfl⟩ rfl (Nat.le_of_ble_eq_true rfl) ⟨Nat.zero_le _, Nat.zero_le _⟩ (fun v2 σ2 τ2 hq => ?_)
    obtain ⟨rfl, hF2, rfl⟩ := hq
    refine y_istore_n C dX8_bestOpening_30 (L' := [_, _, _, _, _, _]) (Nat.lt_of_lt_of_le (by decide : (3 : Nat) < 6) (Nat.le_refl _)) rfl ?_
    refine y_iconst (v := 1) C dX8_bestOpening_31 (by decide) ?_
    refine y_istore C dX8_bestOpening_32 (L' := [_, _, _, _, _, _]) (Nat.lt_of_lt_of_le (by decide : (4 : Nat) < 6) (Nat.le_refl _)) rfl ?_
    refine l_X8_bestOpening C σ2 τ I hs (by omega) (fun σ3 v4 v5 hF3 => ?_) 8 0 (Nat.zero_add _) _ σ2 (hR.k28 hF2) Fr.rf
    have hF9 := hF2.trans hF3
    refine y_iload_n C dX8_bestOpening_69 rfl ?_
    exact z_iret C rfl dX8_bestOpening_70 (⟨by unfold kW; rw [if_neg c8], rfl, ⟨hR.k28 hF9, hC.k28 hF9, hF9.mono cS_28, rfl⟩⟩)
  · -- f
    exact z_thr C0 rfl (ik := 30) (ic := 34) (cls := eIA) (by decide) twX8_bestOpening_a (is := 247) (text := "n is not 1 to 200") (by decide +kernel) dX8_bestOpening_11 dX8_bestOpening_14 dX8_bestOpening_15 dX8_bestOpening_17 dX8_bestOpening_20 ⟨Nat.le_of_ble_eq_true rfl, Nat.le_of_ble_eq_true rfl, Nat.le_refl _, Nat.le_refl _⟩ rfl (⟨rfl, by unfold kW; rw [if_pos c8]⟩)
set_option maxHeartbeats 4000000 in
set_option maxRecDepth 100000 in
theorem l_X9_bestOpening {x : xC} (C : Cx x mX9_bestOpening) (σ : xS) (τ : xT) {r : Rw} {R ns nr ne t w : Nat} (I : Inv r R ns nr ne t (t + 1)) (hs : Sk r) (ht : t + w ≤ 1000000) {Z : State → Prop} (kx : ∀ (σ1 : xS) (v3 : Option Value), σ1 166 = r → Fr (fun a => a = 166 ∨ a = 168 ∨ a = 169) σ σ1 → Y x 60 [some (.ref 165), some (.int (nI w)), some (.int (nI (mBe r w 8))), v3] [] σ1 τ 0 0 Z) : ∀ n k : Nat, k + n = 8 → ∀ σ1 : xS, σ1 166 = r → Fr (fun a => a = 166 ∨ a = 168 ∨ a = 169) σ σ1 → Y x 25 [some (.ref 165), some (.int (nI w)), some (.int (nI (mBe r w k))), some (.int (nI (k + 1)))] [] σ1 τ 0 0 Z := by
  intro n
  induction n with
  | zero =>
    intro k hk
    intro σ1 hM1 hF1
    refine y_iload_n C dX9_bestOpening_25 rfl ?_
    refine y_bipush (v := 8) C dX9_bestOpening_26 (by decide) ?_
    refine y_icmp_gt (t := 60) C dX9_bestOpening_28 (by decide) (fun c28 => ?_) (fun c28 => absurd (nI_lt (a := 8) (b := k + 1) (by omega) (by omega)) c28)
    obtain rfl : k = 8 := by omega
    exact kx σ1 _ hM1 hF1
  | succ n ih =>
    intro k hk
    intro σ1 hM1 hF1
    refine y_iload_n C dX9_bestOpening_25 rfl ?_
    refine y_bipush (v := 8) C dX9_bestOpening_26 (by decide) ?_
    refine y_icmp_gt (t := 60) C dX9_bestOpening_28 (by decide) (fun c28 => absurd c28 (nI_nlt (a := 8) (b := k + 1) (by omega) (by omega))) (fun c28 => ?_)
    refine y_aload_n C dX9_bestOpening_31 rfl ?_
    refine y_iconst (v := 0) C dX9_bestOpening_32 (by decide) ?_
    refine y_iload_n C dX9_bestOpening_33 rfl ?_
    refine y_iload_n C dX9_bestOpening_34 rfl ?_
    refine y_callVi C (e_X9_peakOf _ _ hM1 I hs 0 w I.1.1.2.1 ht (nI (k + 1)) (o8 (by omega))) dX9_bestOpening_35 rfl gX9_bestOpening_X9_peakOf rfl (is_X9) ⟨rfl, qX9_peakOf⟩ ⟨rfl, rfl⟩ ⟨Nat.le_of_ble_eq_true rfl, Nat.le_of_ble_eq_true rfl⟩ rfl (Nat.le_of_ble_eq_true rfl) ⟨Nat.zero_le _, Nat.zero_le _⟩ (fun v2 σ2 τ2 hq => ?_)
    obtain ⟨rfl, hM2, hF2, rfl⟩ := hq
    refine y_aload_n C dX9_bestOpening_38 rfl ?_
    refine y_iconst (v := 0) C dX9_bestOpening_39 (by decide) ?_
    refine y_iload_n C dX9_bestOpening_40 rfl ?_
    refine y_iload_n C dX9_bestOpening_41 rfl ?_
    refine y_callVi C (e_X9_peakOf _ _ hM2 I hs 0 w I.1.1.2.1 ht (nI (mBe r w k)) (o8 (Nat.le_trans (mBe_le r w k) (by omega)))) dX9_bestOpening_42 rfl gX9_bestOpening_X9_peakOf rfl (is_X9) ⟨rfl, qX9_peakOf⟩ ⟨rfl, rfl⟩ ⟨Nat.le_of_ble_eq_true rfl, Nat.le_of_ble_eq_true rfl⟩ rfl (Nat.le_of_ble_eq_true rfl) ⟨Nat.zero_le _, Nat.zero_le _⟩ (fun v3 σ3 τ3 hq => ?_)
    obtain ⟨rfl, hM3, hF3, rfl⟩ := hq
    refine y_icmp_ge (t := 52) C dX9_bestOpening_45 (by decide) (fun kc45 => ?_) (fun kc45 => ?_)
    · -- t
      have hb : mBe r w (k + 1) = mBe r w k := by
        simp only [mBe]
        rw [if_neg (Int32.not_lt.mpr kc45)]
      refine y_iload_n C dX9_bestOpening_52 rfl ?_
      refine y_istore_n C dX9_bestOpening_53 (L' := [_, _, _, _]) (Nat.lt_of_lt_of_le (by decide : (2 : Nat) < 4) (Nat.le_refl _)) rfl ?_
      refine y_iinc C dX9_bestOpening_54 (L' := [_, _, _, _]) rfl (nI_1 (k + 1)) rfl ?_
      refine y_goto (t := 25) C dX9_bestOpening_57 (by decide) ?_
      have h9 := ih (k + 1) (by omega) σ3 hM3 ((hF1.trans hF2).trans hF3)
      rw [hb] at h9
      exact h9
    · -- f
      have hb : mBe r w (k + 1) = k + 1 := by
        simp only [mBe]
        rw [if_pos (Int32.not_le.mp kc45)]
      refine y_iload_n C dX9_bestOpening_48 rfl ?_
      refine y_goto (t := 53) C dX9_bestOpening_49 (by decide) ?_
      refine y_istore_n C dX9_bestOpening_53 (L' := [_, _, _, _]) (Nat.lt_of_lt_of_le (by decide : (2 : Nat) < 4) (Nat.le_refl _)) rfl ?_
      refine y_iinc C dX9_bestOpening_54 (L' := [_, _, _, _]) rfl (nI_1 (k + 1)) rfl ?_
      refine y_goto (t := 25) C dX9_bestOpening_57 (by decide) ?_
      have h9 := ih (k + 1) (by omega) σ3 hM3 ((hF1.trans hF2).trans hF3)
      rw [hb] at h9
      exact h9
set_option maxHeartbeats 4000000 in
set_option maxRecDepth 100000 in
theorem e_X9_bestOpening (σ : xS) (τ : xT) {r : Rw} {R ns nr ne t kp : Nat} {qs : Nat → Rw} (hM : σ 166 = r) (hC : RecM σ kp qs) (hk : kp ≤ 4) (I : Inv r R ns nr ne t (t + 1)) (hs : Sk r) (ht : t + 200 ≤ 1000000) (u : Int32) : Xi mX9_bestOpening [.ref 165, .int u] σ τ (QM (kW u 1 200) (nI (mBe r (cN u) 8)) σ τ r kp qs (r) (kp) (qs)) := by
  have hR4 := I.1.1.2
  have hs8 := I.1.2.1.2
  have hr8 := I.1.2.2.1.2
  have he20 := I.1.2.2.2.1.2
  refine Xi_mk (L := [some (.ref 165), some (.int u), none, none]) (by decide) rfl (Nat.le_of_ble_eq_true rfl) rfl (fun x C => ?_)
  refine y_aload_n C dX9_bestOpening_0 rfl ?_
  refine y_join (t := 13) (v := .int (kW u 1 200)) ?_ (fun K1 => ?_)
  ·
    refine y_callVi C (e_X9_refused _ _ hM hC _) dX9_bestOpening_13 rfl gX9_bestOpening_X9_refused rfl (is_X9) ⟨rfl, qX9_refused⟩ ⟨rfl, rfl⟩ ⟨Nat.le_of_ble_eq_true rfl, Nat.le_of_ble_eq_true rfl⟩ rfl (Nat.le_of_ble_eq_true rfl) ⟨Nat.zero_le _, Nat.zero_le _⟩ (fun v1 σ1 τ1 hq => ?_)
    obtain ⟨rfl, hM1, hC1, hr1, hF1, rfl⟩ := hq
    refine y_if_eq (t := 21) C dX9_bestOpening_16 (by decide) (fun c16 => ?_) (fun c16 => ?_)
    · -- t
      have hk0 : kW u 1 200 = 0 := (ref0 (kW_p _ _ _)).mp c16
      obtain ⟨w, hw1, hw, rfl⟩ := with1 200 (by decide) rfl (kW_0 hk0)
      rw [cN_nI (n := w) (by omega)]
      refine y_iconst (v := 0) C dX9_bestOpening_21 (by decide) ?_
      refine y_istore_n C dX9_bestOpening_22 (L' := [_, _, _, _]) (Nat.lt_of_lt_of_le (by decide : (2 : Nat) < 4) (Nat.le_refl _)) rfl ?_
      refine y_iconst (v := 1) C dX9_bestOpening_23 (by decide) ?_
      refine y_istore_n C dX9_bestOpening_24 (L' := [_, _, _, _]) (Nat.lt_of_lt_of_le (by decide : (3 : Nat) < 4) (Nat.le_refl _)) rfl ?_
      refine l_X9_bestOpening C σ1 τ I hs (by omega) (fun σ3 v3 hM3 hF3 => ?_) 8 0 (Nat.zero_add _) σ1 hM1 Fr.rf
      refine y_iload_n C dX9_bestOpening_60 rfl ?_
      exact y_iret C rfl dX9_bestOpening_61 (⟨by rw [hF3 165 (by decide)]; exact hr1, Or.inl ⟨hk0, rfl, hM3, hC1.k689 hF3, (hF1.mono mS_5).trans (hF3.mono mS_689), rfl⟩⟩)
    · -- f
      have hkn : ¬ kW u 1 200 = 0 := fun z => c16 ((ref0 (kW_p _ _ _)).mpr z)
      refine y_iconst (v := 0) C dX9_bestOpening_19 (by decide) ?_
      exact y_iret C rfl dX9_bestOpening_20 (⟨hr1, Or.inr ⟨hkn, hM1, hC1, hF1.mono mS_5, rfl⟩⟩)
  ·
    refine y_iload_n C dX9_bestOpening_1 rfl ?_
    refine y_callSi C (e_X9_isAhead _ _ _) dX9_bestOpening_2 rfl gX9_bestOpening_X9_isAhead rfl qX9_isAhead ⟨rfl, rfl⟩ ⟨Nat.le_of_ble_eq_true rfl, Nat.le_of_ble_eq_true rfl⟩ rfl (Nat.le_of_ble_eq_true rfl) ⟨Nat.zero_le _, Nat.zero_le _⟩ (fun v1 σ1 τ1 hq => ?_)
    obtain ⟨rfl, rfl, rfl⟩ := hq
    refine y_if_eq (t := 12) C dX9_bestOpening_5 (by decide) (fun c5 => ?_) (fun c5 => ?_)
    · -- t
      refine y_iconst (v := 1) C dX9_bestOpening_12 (by decide) ?_
      exact y_kE K1 (by unfold kW; first | (rw [if_pos c5]; done) | (rw [if_neg c5]; done))
    · -- f
      refine y_iconst (v := 0) C dX9_bestOpening_8 (by decide) ?_
      refine y_goto (t := 13) C dX9_bestOpening_9 (by decide) ?_
      exact y_kE K1 (by unfold kW; first | (rw [if_pos c5]; done) | (rw [if_neg c5]; done))
set_option maxHeartbeats 4000000 in
set_option maxRecDepth 100000 in
theorem l_X8_neededSensors {x : xC} (C : Cx x mX8_neededSensors) (σ : xS) (τ : xT) {r : Rw} {R ns nr ne t w : Nat} (I : Inv r R ns nr ne t (t + 1)) (hs : Sk r) (ht : t + w ≤ 1000000) (i : Nat) (hi : i < R) {Z : State → Prop} (kx : ∀ (σ1 : xS) (v4 : Option Value), Fr (wS 28) σ σ1 → Y x 136 [some (.ref 0), some (.int (nI i)), some (.int (nI w)), some (.int (mNd r i w ns)), v4] [] σ1 τ 0 0 Z) : ∀ n k : Nat, k + n = ns → ∀ (σ1 : xS), Rel σ1 1 r → Fr (wS 28) σ σ1 → Y x 73 [some (.ref 0), some (.int (nI i)), some (.int (nI w)), some (.int (mNd r i w k)), some (.int (nI k))] [] σ1 τ 0 0 Z := by
  intro n
  induction n with
  | zero =>
    intro k hk
    intro σ1 hR1 hF1
    have hB : isW 1 := Or.inl rfl
    have hs8 := I.1.2.1.2
    have hB2 : isW 28 := Or.inr (Or.inl rfl)
    have hBB : 28 + 27 ≤ 1 ∨ 1 + 27 ≤ 28 := Or.inr (by decide)
    refine y_iload C dX8_neededSensors_73 rfl ?_
    refine y_aload_n C dX8_neededSensors_75 rfl ?_
    refine g_X8_now C dX8_neededSensors_76 (by decide +kernel) (by decide +kernel) ?_
    refine g_X7_sensors C hB dX8_neededSensors_79 (by decide +kernel) (by decide +kernel) ?_
    refine gR_X6_count C hB hR1 dX8_neededSensors_82 (by decide +kernel) (by decide +kernel) ?_
    refine y_topE (nI ns) I.1.2.1.1 ?_
    refine y_icmp_ge (t := 136) C dX8_neededSensors_85 (by decide) (fun c85 => ?_) (fun c85 => absurd (by rw [show k = ns by omega]; exact Int32.le_refl _) c85)
    obtain rfl : k = ns := by omega
    exact kx σ1 _ hF1
  | succ n ih =>
    intro k hk
    intro σ1 hR1 hF1
    have hB : isW 1 := Or.inl rfl
    have hs8 := I.1.2.1.2
    have hB2 : isW 28 := Or.inr (Or.inl rfl)
    have hBB : 28 + 27 ≤ 1 ∨ 1 + 27 ≤ 28 := Or.inr (by decide)
    refine y_iload C dX8_neededSensors_73 rfl ?_
    refine y_aload_n C dX8_neededSensors_75 rfl ?_
    refine g_X8_now C dX8_neededSensors_76 (by decide +kernel) (by decide +kernel) ?_
    refine g_X7_sensors C hB dX8_neededSensors_79 (by decide +kernel) (by decide +kernel) ?_
    refine gR_X6_count C hB hR1 dX8_neededSensors_82 (by decide +kernel) (by decide +kernel) ?_
    refine y_topE (nI ns) I.1.2.1.1 ?_
    refine y_icmp_ge (t := 136) C dX8_neededSensors_85 (by decide) (fun c85 => absurd c85 (nI_ge (by omega) (by omega))) (fun c85 => ?_)
    refine y_aload_n C dX8_neededSensors_88 rfl ?_
    refine g_X8_thought C dX8_neededSensors_89 (by decide +kernel) (by decide +kernel) ?_
    refine y_aload_n C dX8_neededSensors_92 rfl ?_
    refine g_X8_now C dX8_neededSensors_93 (by decide +kernel) (by decide +kernel) ?_
    refine y_callVv C (e_copy hB2 hB hBB _ _ hR1 I.jam) dX8_neededSensors_96 rfl gX8_neededSensors_X7_copyFrom rfl (is_X7 hB2) ⟨rfl, qX7_copyFrom⟩ ⟨rfl, rfl⟩ ⟨Nat.le_of_ble_eq_true rfl, Nat.le_of_ble_eq_true rfl⟩ rfl (Nat.le_of_ble_eq_true rfl) ⟨Nat.zero_le _, Nat.zero_le _⟩ (fun σ2 τ2 hq => ?_)
    obtain ⟨hR2, hF2, rfl⟩ := hq
    refine y_aload_n C dX8_neededSensors_99 rfl ?_
    refine g_X8_thought C dX8_neededSensors_100 (by decide +kernel) (by decide +kernel) ?_
    refine g_X7_sensors C hB2 dX8_neededSensors_103 (by decide +kernel) (by decide +kernel) ?_
    refine g_X6_fault C hB2 dX8_neededSensors_106 (by decide +kernel) (by decide +kernel) ?_
    refine y_iload C dX8_neededSensors_109 rfl ?_
    refine y_iconst (v := 1) C dX8_neededSensors_111 (by decide) ?_
    refine wR C hB2 hR2 (57 + 7 * k + 5) 11 k 8 (pl_s _ (by omega) _ (by decide)) (by omega) (by omega) (lv_upd (by omega) (by omega) (by omega)) (by decide) rfl (by decide) rfl (by omega) dX8_neededSensors_112 (fun σ3 hR3 hF3 => ?_)
    refine y_aload_n C dX8_neededSensors_113 rfl ?_
    refine y_iload_n C dX8_neededSensors_114 rfl ?_
    refine y_iload_n C dX8_neededSensors_115 rfl ?_
    refine y_callVi C (e_X8_firstAlarm _ _ hR3 (I.dead (d := k) (by omega) 1) (hs.dead k 1) i w hi ht) dX8_neededSensors_116 rfl gX8_neededSensors_X8_firstAlarm rfl (is_X8) ⟨rfl, qX8_firstAlarm⟩ ⟨rfl, rfl⟩ ⟨Nat.le_of_ble_eq_true rfl, Nat.le_of_ble_eq_true rfl⟩ rfl (Nat.le_of_ble_eq_true rfl) ⟨Nat.zero_le _, Nat.zero_le _⟩ (fun v4 σ4 τ4 hq => ?_)
    obtain ⟨rfl, hF4, rfl⟩ := hq
    have hF5 := (hF2.trans hF3).trans hF4
    refine y_iconst (v := -1) C dX8_neededSensors_119 (by decide) ?_
    refine y_icmp_ne (t := 130) C dX8_neededSensors_120 (by decide) (fun kc120 => ?_) (fun kc120 => ?_)
    · -- t
      have hb : mNd r i w (k + 1) = mNd r i w k := by
        simp only [mNd]
        rw [if_neg kc120, Int32.or_zero]
      refine y_iinc C dX8_neededSensors_130 (L' := [_, _, _, _, _]) rfl (nI_1 k) rfl ?_
      refine y_goto (t := 73) C dX8_neededSensors_133 (by decide) ?_
      have h9 := ih (k + 1) (by omega) σ4 (hR1.k28 hF5) (hF1.trans hF5)
      rw [hb] at h9
      exact h9
    · -- f
      have hb : mNd r i w (k + 1) = mNd r i w k ||| ((1 : Int32) <<< (nI k &&& 31)) := by
        simp only [mNd]
        rw [if_pos kc120]
      refine y_iload_n C dX8_neededSensors_123 rfl ?_
      refine y_iconst (v := 1) C dX8_neededSensors_124 (by decide) ?_
      refine y_iload C dX8_neededSensors_125 rfl ?_
      refine y_ishl C dX8_neededSensors_127 ?_
      refine y_ior C dX8_neededSensors_128 ?_
      refine y_istore_n C dX8_neededSensors_129 (L' := [_, _, _, _, _]) (Nat.lt_of_lt_of_le (by decide : (3 : Nat) < 5) (Nat.le_refl _)) rfl ?_
      refine y_iinc C dX8_neededSensors_130 (L' := [_, _, _, _, _]) rfl (nI_1 k) rfl ?_
      refine y_goto (t := 73) C dX8_neededSensors_133 (by decide) ?_
      have h9 := ih (k + 1) (by omega) σ4 (hR1.k28 hF5) (hF1.trans hF5)
      rw [hb] at h9
      exact h9
set_option maxHeartbeats 4000000 in
set_option maxRecDepth 100000 in
theorem e_X8_neededSensors (σ : xS) (τ : xT) {r : Rw} {R ns nr ne t kp : Nat} {qs : Nat → Rw} (hR : Rel σ 1 r) (hC : Rc σ kp qs) (hk : kp ≤ 4) (I : Inv r R ns nr ne t (t + 1)) (hs : Sk r) (ht : t + 200 ≤ 1000000) (u v : Int32) : Zi mX8_neededSensors [.ref 0, .int u, .int v] σ τ (fun y σ1 τ1 => kRW r u v 1 200 = 0 ∧ y = (mNee r (cN u) (cN v) ns) ∧ Cl σ σ1 τ τ1 (r) (kp) (qs)) (fun E => (E = eIO ∧ kRW r u v 1 200 = 1) ∨ (E = eIA ∧ kRW r u v 1 200 = 2)) := by
  have hB : isW 1 := Or.inl rfl
  have hR4 := I.1.1.2
  have hs8 := I.1.2.1.2
  have hr8 := I.1.2.2.1.2
  have he20 := I.1.2.2.2.1.2
  have hB2 : isW 28 := Or.inr (Or.inl rfl)
  have hBB : 28 + 27 ≤ 1 ∨ 1 + 27 ≤ 28 := Or.inr (by decide)
  refine Zi_mk (L := [some (.ref 0), some (.int u), some (.int v), none, none]) (by decide) rfl (Nat.le_of_ble_eq_true rfl) rfl (fun x C0 => ?_)
  have C := C0.1
  refine y_aload_n C dX8_neededSensors_0 rfl ?_
  refine g_X8_now C dX8_neededSensors_1 (by decide +kernel) (by decide +kernel) ?_
  refine g_X7_house C hB dX8_neededSensors_4 (by decide +kernel) (by decide +kernel) ?_
  refine y_iload_n C dX8_neededSensors_7 rfl ?_
  refine y_callVi C (e_X3_isRoom hB _ _ hR _) dX8_neededSensors_8 rfl gX8_neededSensors_X3_isRoom rfl (is_X3 hB) ⟨rfl, qX3_isRoom⟩ ⟨rfl, rfl⟩ ⟨Nat.le_of_ble_eq_true rfl, Nat.le_of_ble_eq_true rfl⟩ rfl (Nat.le_of_ble_eq_true rfl) ⟨Nat.zero_le _, Nat.zero_le _⟩ (fun v1 σ1 τ1 hq => ?_)
  obtain ⟨rfl, rfl, rfl⟩ := hq
  refine y_if_ne (t := 24) C dX8_neededSensors_11 (by decide) (fun c11 => ?_) (fun c11 => ?_)
  · -- t
    refine y_iload_n C dX8_neededSensors_24 rfl ?_
    refine y_iconst (v := 1) C dX8_neededSensors_25 (by decide) ?_
    refine y_sipush (v := 200) C dX8_neededSensors_26 (by decide) ?_
    refine y_callSi C (e_X8_isWithin _ _ _ _ _) dX8_neededSensors_29 rfl gX8_neededSensors_X8_isWithin rfl qX8_isWithin ⟨rfl, rfl⟩ ⟨Nat.le_of_ble_eq_true rfl, Nat.le_of_ble_eq_true rfl⟩ rfl (Nat.le_of_ble_eq_true rfl) ⟨Nat.zero_le _, Nat.zero_le _⟩ (fun v1 σ1 τ1 hq => ?_)
    obtain ⟨rfl, rfl, rfl⟩ := hq
    refine y_if_ne (t := 45) C dX8_neededSensors_32 (by decide) (fun c32 => ?_) (fun c32 => ?_)
    · -- t
      obtain ⟨i, hi, rfl⟩ := room_of I c11
      obtain ⟨w, hw1, hw, rfl⟩ := with1 200 (by decide) rfl c32
      rw [cN_nI (n := i) (by omega), cN_nI (n := w) (by omega)]
      refine y_aload_n C dX8_neededSensors_45 rfl ?_
      refine g_X8_thought C dX8_neededSensors_46 (by decide +kernel) (by decide +kernel) ?_
      refine y_aload_n C dX8_neededSensors_49 rfl ?_
      refine g_X8_now C dX8_neededSensors_50 (by decide +kernel) (by decide +kernel) ?_
      refine y_callVv C (e_copy hB2 hB hBB _ _ hR I.jam) dX8_neededSensors_53 rfl gX8_neededSensors_X7_copyFrom rfl (is_X7 hB2) ⟨rfl, qX7_copyFrom⟩ ⟨rfl, rfl⟩ ⟨Nat.le_of_ble_eq_true rfl, Nat.le_of_ble_eq_true rfl⟩ rfl (Nat.le_of_ble_eq_true rfl) ⟨Nat.zero_le _, Nat.zero_le _⟩ (fun σ2 τ2 hq => ?_)
      obtain ⟨hR2, hF2, rfl⟩ := hq
      refine y_aload_n C dX8_neededSensors_56 rfl ?_
      refine y_iload_n C dX8_neededSensors_57 rfl ?_
      refine y_iload_n C dX8_neededSensors_58 rfl ?_
      refine y_callVi C (e_X8_firstAlarm _ _ hR2 I hs i w hi (by omega)) dX8_neededSensors_59 rfl gX8_neededSensors_X8_firstAlarm rfl (is_X8) ⟨rfl, qX8_firstAlarm⟩ ⟨rfl, rfl⟩ ⟨Nat.le_of_ble_eq_true rfl, Nat.le_of_ble_eq_true rfl⟩ rfl (Nat.le_of_ble_eq_true rfl) ⟨Nat.zero_le _, Nat.zero_le _⟩ (fun v3 σ3 τ3 hq => ?_)
      obtain ⟨rfl, hF3, rfl⟩ := hq
      refine y_iconst (v := -1) C dX8_neededSensors_62 (by decide) ?_
      refine y_icmp_ne (t := 68) C dX8_neededSensors_63 (by decide) (fun c63 => ?_) (fun c63 => ?_)
      · -- t
        refine y_iconst (v := 0) C dX8_neededSensors_68 (by decide) ?_
        refine y_istore_n C dX8_neededSensors_69 (L' := [_, _, _, _, _]) (Nat.lt_of_lt_of_le (by decide : (3 : Nat) < 5) (Nat.le_refl _)) rfl ?_
        refine y_iconst (v := 0) C dX8_neededSensors_70 (by decide) ?_
        refine y_istore C dX8_neededSensors_71 (L' := [_, _, _, _, _]) (Nat.lt_of_lt_of_le (by decide : (4 : Nat) < 5) (Nat.le_refl _)) rfl ?_
        refine l_X8_neededSensors C σ3 τ I hs (by omega) i hi (fun σ4 v4 hF4 => ?_) ns 0 (Nat.zero_add _) σ3 (hR.k28 (hF2.trans hF3)) Fr.rf
        have hF9 := (hF2.trans hF3).trans hF4
        refine y_iload_n C dX8_neededSensors_136 rfl ?_
        exact z_iret C rfl dX8_neededSensors_137 (⟨by unfold kRW; rw [if_neg c11, if_neg c32], by unfold mNee; rw [if_neg c63], ⟨hR.k28 hF9, hC.k28 hF9, hF9.mono cS_28, rfl⟩⟩)
      · -- f
        refine y_iconst (v := 0) C dX8_neededSensors_66 (by decide) ?_
        exact z_iret C rfl dX8_neededSensors_67 (have hF9 := hF2.trans hF3; ⟨by unfold kRW; rw [if_neg c11, if_neg c32], by unfold mNee; rw [if_pos c63], ⟨hR.k28 hF9, hC.k28 hF9, hF9.mono cS_28, rfl⟩⟩)
    · -- f
      exact z_thr C0 rfl (ik := 30) (ic := 34) (cls := eIA) (by decide) twX8_neededSensors_a (is := 247) (text := "n is not 1 to 200") (by decide +kernel) dX8_neededSensors_35 dX8_neededSensors_38 dX8_neededSensors_39 dX8_neededSensors_41 dX8_neededSensors_44 ⟨Nat.le_of_ble_eq_true rfl, Nat.le_of_ble_eq_true rfl, Nat.le_refl _, Nat.le_refl _⟩ rfl (Or.inr ⟨rfl, by unfold kRW; rw [if_neg c11, if_pos c32]⟩)
  · -- f
    exact z_thr C0 rfl (ik := 59) (ic := 63) (cls := eIO) (by decide) twX8_neededSensors_b (is := 61) (text := "there is no such room") (by decide +kernel) dX8_neededSensors_14 dX8_neededSensors_17 dX8_neededSensors_18 dX8_neededSensors_20 dX8_neededSensors_23 ⟨Nat.le_of_ble_eq_true rfl, Nat.le_of_ble_eq_true rfl, Nat.le_refl _, Nat.le_refl _⟩ rfl (Or.inl ⟨rfl, by unfold kRW; rw [if_pos c11]⟩)
set_option maxHeartbeats 4000000 in
set_option maxRecDepth 100000 in
theorem l_X9_neededSensors {x : xC} (C : Cx x mX9_neededSensors) (σ : xS) (τ : xT) {r : Rw} {R ns nr ne t w : Nat} (I : Inv r R ns nr ne t (t + 1)) (hs : Sk r) (ht : t + w ≤ 1000000) (i : Nat) (hi : i < R) {Z : State → Prop} (kx : ∀ (σ1 : xS) (v4 : Option Value), σ1 166 = r → Fr (fun a => a = 166 ∨ a = 168 ∨ a = 169) σ σ1 → Y x 88 [some (.ref 165), some (.int (nI i)), some (.int (nI w)), some (.int (mNd r i w ns)), v4] [] σ1 τ 0 0 Z) : ∀ n k : Nat, k + n = ns → ∀ σ1 : xS, σ1 166 = r → Fr (fun a => a = 166 ∨ a = 168 ∨ a = 169) σ σ1 → Y x 48 [some (.ref 165), some (.int (nI i)), some (.int (nI w)), some (.int (mNd r i w k)), some (.int (nI k))] [] σ1 τ 0 0 Z := by
  intro n
  induction n with
  | zero =>
    intro k hk
    intro σ1 hM1 hF1
    have hs8 := I.1.2.1.2
    refine y_iload C dX9_neededSensors_48 rfl ?_
    refine y_aload_n C dX9_neededSensors_50 rfl ?_
    refine g_X9_now C dX9_neededSensors_51 (by decide +kernel) (by decide +kernel) ?_
    refine y_bipush (v := 10) C dX9_neededSensors_54 (by decide) ?_
    refine mA C hM1 10 rfl (by decide) dX9_neededSensors_56 ?_
    refine y_topE (nI ns) I.1.2.1.1 ?_
    refine y_icmp_ge (t := 88) C dX9_neededSensors_57 (by decide) (fun c57 => ?_) (fun c57 => absurd (by rw [show k = ns by omega]; exact Int32.le_refl _) c57)
    obtain rfl : k = ns := by omega
    exact kx σ1 _ hM1 hF1
  | succ n ih =>
    intro k hk
    intro σ1 hM1 hF1
    have hs8 := I.1.2.1.2
    refine y_iload C dX9_neededSensors_48 rfl ?_
    refine y_aload_n C dX9_neededSensors_50 rfl ?_
    refine g_X9_now C dX9_neededSensors_51 (by decide +kernel) (by decide +kernel) ?_
    refine y_bipush (v := 10) C dX9_neededSensors_54 (by decide) ?_
    refine mA C hM1 10 rfl (by decide) dX9_neededSensors_56 ?_
    refine y_topE (nI ns) I.1.2.1.1 ?_
    refine y_icmp_ge (t := 88) C dX9_neededSensors_57 (by decide) (fun c57 => absurd c57 (nI_ge (by omega) (by omega))) (fun c57 => ?_)
    refine y_iload_n C dX9_neededSensors_60 rfl ?_
    refine y_aload_n C dX9_neededSensors_61 rfl ?_
    refine y_iload_n C dX9_neededSensors_62 rfl ?_
    refine y_iload_n C dX9_neededSensors_63 rfl ?_
    refine y_iload C dX9_neededSensors_64 rfl ?_
    refine y_callVi C (e_X9_alarmsWith _ _ hM1 I hs i w hi ht (nI k) (upd r (57 + 7 * k + 5) 1) (Or.inr ⟨k, by omega, rfl, rfl⟩)) dX9_neededSensors_66 rfl gX9_neededSensors_X9_alarmsWith rfl (is_X9) ⟨rfl, qX9_alarmsWith⟩ ⟨rfl, rfl⟩ ⟨Nat.le_of_ble_eq_true rfl, Nat.le_of_ble_eq_true rfl⟩ rfl (Nat.le_of_ble_eq_true rfl) ⟨Nat.zero_le _, Nat.zero_le _⟩ (fun v2 σ2 τ2 hq => ?_)
    obtain ⟨rfl, hM2, hF2, rfl⟩ := hq
    refine y_if_eq (t := 76) C dX9_neededSensors_69 (by decide) (fun kc69 => ?_) (fun kc69 => ?_)
    · -- t
      have hb : mNd r i w (k + 1) = mNd r i w k ||| ((1 : Int32) <<< (nI k &&& 31)) := by
        simp only [mNd]
        rw [if_pos (gd_f kc69)]
      refine y_iconst (v := 1) C dX9_neededSensors_76 (by decide) ?_
      refine y_iload C dX9_neededSensors_77 rfl ?_
      refine y_ishl C dX9_neededSensors_79 ?_
      refine y_ior C dX9_neededSensors_80 ?_
      refine y_istore_n C dX9_neededSensors_81 (L' := [_, _, _, _, _]) (Nat.lt_of_lt_of_le (by decide : (3 : Nat) < 5) (Nat.le_refl _)) rfl ?_
      refine y_iinc C dX9_neededSensors_82 (L' := [_, _, _, _, _]) rfl (nI_1 k) rfl ?_
      refine y_goto (t := 48) C dX9_neededSensors_85 (by decide) ?_
      have h9 := ih (k + 1) (by omega) σ2 hM2 (hF1.trans hF2)
      rw [hb] at h9
      exact h9
    · -- f
      have hb : mNd r i w (k + 1) = mNd r i w k ||| 0 := by
        simp only [mNd]
        rw [if_neg (gd_t kc69)]
      refine y_iconst (v := 0) C dX9_neededSensors_72 (by decide) ?_
      refine y_goto (t := 80) C dX9_neededSensors_73 (by decide) ?_
      refine y_ior C dX9_neededSensors_80 ?_
      refine y_istore_n C dX9_neededSensors_81 (L' := [_, _, _, _, _]) (Nat.lt_of_lt_of_le (by decide : (3 : Nat) < 5) (Nat.le_refl _)) rfl ?_
      refine y_iinc C dX9_neededSensors_82 (L' := [_, _, _, _, _]) rfl (nI_1 k) rfl ?_
      refine y_goto (t := 48) C dX9_neededSensors_85 (by decide) ?_
      have h9 := ih (k + 1) (by omega) σ2 hM2 (hF1.trans hF2)
      rw [hb] at h9
      exact h9
set_option maxHeartbeats 4000000 in
set_option maxRecDepth 100000 in
theorem e_X9_neededSensors (σ : xS) (τ : xT) {r : Rw} {R ns nr ne t kp : Nat} {qs : Nat → Rw} (hM : σ 166 = r) (hC : RecM σ kp qs) (hk : kp ≤ 4) (I : Inv r R ns nr ne t (t + 1)) (hs : Sk r) (ht : t + 200 ≤ 1000000) (u v : Int32) : Xi mX9_neededSensors [.ref 165, .int u, .int v] σ τ (QM (kRW r u v 1 200) (mNee r (cN u) (cN v) ns) σ τ r kp qs (r) (kp) (qs)) := by
  have hR4 := I.1.1.2
  have hs8 := I.1.2.1.2
  have hr8 := I.1.2.2.1.2
  have he20 := I.1.2.2.2.1.2
  refine Xi_mk (L := [some (.ref 165), some (.int u), some (.int v), none, none]) (by decide) rfl (Nat.le_of_ble_eq_true rfl) rfl (fun x C => ?_)
  refine y_aload_n C dX9_neededSensors_0 rfl ?_
  refine y_join (t := 25) (v := .int (kRW r u v 1 200)) ?_ (fun K1 => ?_)
  ·
    refine y_callVi C (e_X9_refused _ _ hM hC _) dX9_neededSensors_25 rfl gX9_neededSensors_X9_refused rfl (is_X9) ⟨rfl, qX9_refused⟩ ⟨rfl, rfl⟩ ⟨Nat.le_of_ble_eq_true rfl, Nat.le_of_ble_eq_true rfl⟩ rfl (Nat.le_of_ble_eq_true rfl) ⟨Nat.zero_le _, Nat.zero_le _⟩ (fun v1 σ1 τ1 hq => ?_)
    obtain ⟨rfl, hM1, hC1, hr1, hF1, rfl⟩ := hq
    refine y_if_eq (t := 33) C dX9_neededSensors_28 (by decide) (fun c28 => ?_) (fun c28 => ?_)
    · -- t
      have hk0 : kRW r u v 1 200 = 0 := (ref0 (kRW_p _ _ _ _ _)).mp c28
      obtain ⟨i, hi, rfl⟩ := room_of I (kRW_0 hk0).1
      obtain ⟨w, hw1, hw, rfl⟩ := with1 200 (by decide) rfl (kRW_0 hk0).2
      rw [cN_nI (n := i) (by omega), cN_nI (n := w) (by omega)]
      refine y_iconst (v := 0) C dX9_neededSensors_33 (by decide) ?_
      refine y_istore_n C dX9_neededSensors_34 (L' := [_, _, _, _, _]) (Nat.lt_of_lt_of_le (by decide : (3 : Nat) < 5) (Nat.le_refl _)) rfl ?_
      refine y_aload_n C dX9_neededSensors_35 rfl ?_
      refine y_iload_n C dX9_neededSensors_36 rfl ?_
      refine y_iload_n C dX9_neededSensors_37 rfl ?_
      refine y_iconst (v := -1) C dX9_neededSensors_38 (by decide) ?_
      refine y_callVi C (e_X9_alarmsWith _ _ hM1 I hs i w hi (by omega) (-1) r (Or.inl ⟨rfl, rfl⟩)) dX9_neededSensors_39 rfl gX9_neededSensors_X9_alarmsWith rfl (is_X9) ⟨rfl, qX9_alarmsWith⟩ ⟨rfl, rfl⟩ ⟨Nat.le_of_ble_eq_true rfl, Nat.le_of_ble_eq_true rfl⟩ rfl (Nat.le_of_ble_eq_true rfl) ⟨Nat.zero_le _, Nat.zero_le _⟩ (fun v2 σ2 τ2 hq => ?_)
      obtain ⟨rfl, hM2, hF2, rfl⟩ := hq
      refine y_if_eq (t := 88) C dX9_neededSensors_42 (by decide) (fun c42 => ?_) (fun c42 => ?_)
      · -- t
        have hb : mFaF i r 0 w = -1 := gd_f c42
        refine y_iload_n C dX9_neededSensors_88 rfl ?_
        exact y_iret C rfl dX9_neededSensors_89 (by first | exact ⟨by rw [hF3 165 (by decide), hF2 165 (by decide)]; exact hr1, Or.inl ⟨hk0, by unfold mNee; rw [if_neg hb], hM3, (hC1.k689 hF2).k689 hF3, ((hF1.mono mS_5).trans (hF2.mono mS_689)).trans (hF3.mono mS_689), rfl⟩⟩ | exact ⟨by rw [hF2 165 (by decide)]; exact hr1, Or.inl ⟨hk0, by unfold mNee; rw [if_pos hb], hM2, hC1.k689 hF2, (hF1.mono mS_5).trans (hF2.mono mS_689), rfl⟩⟩)
      · -- f
        have hb : ¬ mFaF i r 0 w = -1 := gd_t c42
        refine y_iconst (v := 0) C dX9_neededSensors_45 (by decide) ?_
        refine y_istore C dX9_neededSensors_46 (L' := [_, _, _, _, _]) (Nat.lt_of_lt_of_le (by decide : (4 : Nat) < 5) (Nat.le_refl _)) rfl ?_
        refine l_X9_neededSensors C σ2 τ I hs (by omega) i hi (fun σ3 v4 hM3 hF3 => ?_) ns 0 (Nat.zero_add _) σ2 hM2 Fr.rf
        refine y_iload_n C dX9_neededSensors_88 rfl ?_
        exact y_iret C rfl dX9_neededSensors_89 (by first | exact ⟨by rw [hF3 165 (by decide), hF2 165 (by decide)]; exact hr1, Or.inl ⟨hk0, by unfold mNee; rw [if_neg hb], hM3, (hC1.k689 hF2).k689 hF3, ((hF1.mono mS_5).trans (hF2.mono mS_689)).trans (hF3.mono mS_689), rfl⟩⟩ | exact ⟨by rw [hF2 165 (by decide)]; exact hr1, Or.inl ⟨hk0, by unfold mNee; rw [if_pos hb], hM2, hC1.k689 hF2, (hF1.mono mS_5).trans (hF2.mono mS_689), rfl⟩⟩)
    · -- f
      have hkn : ¬ kRW r u v 1 200 = 0 := fun z => c28 ((ref0 (kRW_p _ _ _ _ _)).mpr z)
      refine y_iconst (v := 0) C dX9_neededSensors_31 (by decide) ?_
      exact y_iret C rfl dX9_neededSensors_32 (⟨hr1, Or.inr ⟨hkn, hM1, hC1, hF1.mono mS_5, rfl⟩⟩)
  ·
    refine y_aload_n C dX9_neededSensors_1 rfl ?_
    refine y_iload_n C dX9_neededSensors_2 rfl ?_
    refine y_callVi C (e_X9_isRoomR _ _ hM I _) dX9_neededSensors_3 rfl gX9_neededSensors_X9_isRoom rfl (is_X9) ⟨rfl, qX9_isRoom⟩ ⟨rfl, rfl⟩ ⟨Nat.le_of_ble_eq_true rfl, Nat.le_of_ble_eq_true rfl⟩ rfl (Nat.le_of_ble_eq_true rfl) ⟨Nat.zero_le _, Nat.zero_le _⟩ (fun v1 σ1 τ1 hq => ?_)
    obtain ⟨rfl, rfl, rfl⟩ := hq
    refine y_if_ne (t := 13) C dX9_neededSensors_6 (by decide) (fun c6 => ?_) (fun c6 => ?_)
    · -- t
      refine y_iload_n C dX9_neededSensors_13 rfl ?_
      refine y_callSi C (e_X9_isAhead _ _ _) dX9_neededSensors_14 rfl gX9_neededSensors_X9_isAhead rfl qX9_isAhead ⟨rfl, rfl⟩ ⟨Nat.le_of_ble_eq_true rfl, Nat.le_of_ble_eq_true rfl⟩ rfl (Nat.le_of_ble_eq_true rfl) ⟨Nat.zero_le _, Nat.zero_le _⟩ (fun v1 σ1 τ1 hq => ?_)
      obtain ⟨rfl, rfl, rfl⟩ := hq
      refine y_if_ne (t := 24) C dX9_neededSensors_17 (by decide) (fun c17 => ?_) (fun c17 => ?_)
      · -- t
        refine y_iconst (v := 0) C dX9_neededSensors_24 (by decide) ?_
        exact y_kE K1 (by unfold kRW; first | (rw [if_pos c6]; done) | (rw [if_neg c6, if_pos c17]; done) | (rw [if_neg c6, if_neg c17]; done))
      · -- f
        refine y_iconst (v := 2) C dX9_neededSensors_20 (by decide) ?_
        refine y_goto (t := 25) C dX9_neededSensors_21 (by decide) ?_
        exact y_kE K1 (by unfold kRW; first | (rw [if_pos c6]; done) | (rw [if_neg c6, if_pos c17]; done) | (rw [if_neg c6, if_neg c17]; done))
    · -- f
      refine y_iconst (v := 1) C dX9_neededSensors_9 (by decide) ?_
      refine y_goto (t := 25) C dX9_neededSensors_10 (by decide) ?_
      exact y_kE K1 (by unfold kRW; first | (rw [if_pos c6]; done) | (rw [if_neg c6, if_pos c17]; done) | (rw [if_neg c6, if_neg c17]; done))
set_option maxHeartbeats 4000000 in
set_option maxRecDepth 100000 in
theorem l_X8_burnsFor {x : xC} (C : Cx x mX8_burnsFor) (σ : xS) (τ : xT) {R ns nr nn : Nat} (hl : nn ≤ 1000000) (fin : Int32) {Z : State → Prop} (kx : ∀ (a : Int32) (pc9 : Nat) (v2 : Option Value) (σ1 : xS), (pc9 = 76 ∨ pc9 = 84) → a = fin → Fr (wS 28) σ σ1 → Y x pc9 [some (.ref 0), some (.int (nI nn)), v2] [.int a] σ1 τ 0 0 Z) : ∀ n k : Nat, k + n = nn → ∀ (q : Rw) (e t1 : Nat), Inv q R ns nr e t1 (t1 + 1) → Sk q → t1 + n ≤ 1000000 → mBuF q k n = fin → ∀ σ1 : xS, Rel σ1 28 q → Fr (wS 28) σ σ1 → Y x 49 [some (.ref 0), some (.int (nI nn)), some (.int (nI (k + 1)))] [] σ1 τ 0 0 Z := by
  intro n
  induction n with
  | zero =>
    intro k hk
    intro q e t1 Iq hsq ht1 hf σ1 hR1 hF1
    have hB : isW 28 := Or.inr (Or.inl rfl)
    simp only [mBuF] at hf
    refine y_iload_n C dX8_burnsFor_49 rfl ?_
    refine y_iload_n C dX8_burnsFor_50 rfl ?_
    refine y_icmp_gt (t := 83) C dX8_burnsFor_51 (by decide) (fun c51 => ?_) (fun c51 => absurd (nI_lt (by omega) (by omega)) c51)
    refine y_iconst (v := -1) C dX8_burnsFor_83 (by decide) ?_
    exact kx _ 84 _ σ1 (Or.inr rfl) hf hF1
  | succ n ih =>
    intro k hk
    intro q e t1 Iq hsq ht1 hf σ1 hR1 hF1
    have hB : isW 28 := Or.inr (Or.inl rfl)
    simp only [mBuF] at hf
    refine y_iload_n C dX8_burnsFor_49 rfl ?_
    refine y_iload_n C dX8_burnsFor_50 rfl ?_
    refine y_icmp_gt (t := 83) C dX8_burnsFor_51 (by decide) (fun c51 => absurd c51 (nI_nlt (by omega) (by omega))) (fun c51 => ?_)
    refine y_aload_n C dX8_burnsFor_54 rfl ?_
    refine g_X8_thought C dX8_burnsFor_55 (by decide +kernel) (by decide +kernel) ?_
    refine y_callVi C (e_X7_letMinutePass hB _ _ hR1 Iq hsq (by omega)) dX8_burnsFor_58 rfl gX8_burnsFor_X7_letMinutePass rfl (is_X7 hB) ⟨rfl, qX7_letMinutePass⟩ ⟨rfl, rfl⟩ ⟨Nat.le_of_ble_eq_true rfl, Nat.le_of_ble_eq_true rfl⟩ rfl (Nat.le_of_ble_eq_true rfl) ⟨Nat.zero_le _, Nat.zero_le _⟩ (fun v2 σ2 τ2 hq => ?_)
    obtain ⟨rfl, hR2, hF2, rfl⟩ := hq
    refine y_pop C dX8_burnsFor_61 rfl ?_
    refine y_aload_n C dX8_burnsFor_62 rfl ?_
    refine g_X8_thought C dX8_burnsFor_63 (by decide +kernel) (by decide +kernel) ?_
    refine g_X7_hearth C hB dX8_burnsFor_66 (by decide +kernel) (by decide +kernel) ?_
    refine gR_X2_fuel C hB hR2 dX8_burnsFor_69 (by decide +kernel) (by decide +kernel) ?_
    refine y_if_ne (t := 77) C dX8_burnsFor_72 (by decide) (fun kc72 => ?_) (fun kc72 => ?_)
    · -- t
      refine y_iinc C dX8_burnsFor_77 (L' := [_, _, _]) rfl (nI_1 (k + 1)) rfl ?_
      refine y_goto (t := 49) C dX8_burnsFor_80 (by decide) ?_
      exact ih (k + 1) (by omega) (mMin q) (e - mDue (upd q 7 (q 7 + 1))) (t1 + 1) (Iq.min hsq (by omega)) (Sk.min Iq hsq (by omega)) (by omega) (by rw [if_neg kc72] at hf; exact hf) σ2 hR2 (hF1.trans hF2)
    · -- f
      refine y_iload_n C dX8_burnsFor_75 rfl ?_
      exact kx _ 76 _ σ2 (Or.inl rfl) (by rw [if_pos kc72] at hf; exact hf) (hF1.trans hF2)
set_option maxHeartbeats 4000000 in
set_option maxRecDepth 100000 in
theorem e_X8_burnsFor (σ : xS) (τ : xT) {r : Rw} {R ns nr ne t kp : Nat} {qs : Nat → Rw} (hR : Rel σ 1 r) (hC : Rc σ kp qs) (hk : kp ≤ 4) (I : Inv r R ns nr ne t (t + 1)) (hs : Sk r) (ht : t + 200 ≤ 1000000) (u : Int32) : Zi mX8_burnsFor [.ref 0, .int u] σ τ (fun v σ1 τ1 => kW u 1 200 = 0 ∧ v = (mBFo r (cN u)) ∧ Cl σ σ1 τ τ1 (r) (kp) (qs)) (fun E => E = eIA ∧ kW u 1 200 = 1) := by
  have hB : isW 1 := Or.inl rfl
  have hR4 := I.1.1.2
  have hs8 := I.1.2.1.2
  have hr8 := I.1.2.2.1.2
  have he20 := I.1.2.2.2.1.2
  have hB2 : isW 28 := Or.inr (Or.inl rfl)
  have hBB : 28 + 27 ≤ 1 ∨ 1 + 27 ≤ 28 := Or.inr (by decide)
  refine Zi_mk (L := [some (.ref 0), some (.int u), none]) (by decide) rfl (Nat.le_of_ble_eq_true rfl) rfl (fun x C0 => ?_)
  have C := C0.1
  refine y_iload_n C dX8_burnsFor_0 rfl ?_
  refine y_iconst (v := 1) C dX8_burnsFor_1 (by decide) ?_
  refine y_sipush (v := 200) C dX8_burnsFor_2 (by decide) ?_
  refine y_callSi C (e_X8_isWithin _ _ _ _ _) dX8_burnsFor_5 rfl gX8_burnsFor_X8_isWithin rfl qX8_isWithin ⟨rfl, rfl⟩ ⟨Nat.le_of_ble_eq_true rfl, Nat.le_of_ble_eq_true rfl⟩ rfl (Nat.le_of_ble_eq_true rfl) ⟨Nat.zero_le _, Nat.zero_le _⟩ (fun v1 σ1 τ1 hq => ?_)
  obtain ⟨rfl, rfl, rfl⟩ := hq
  refine y_if_ne (t := 21) C dX8_burnsFor_8 (by decide) (fun c8 => ?_) (fun c8 => ?_)
  · -- t
    obtain ⟨w, hw1, hw, rfl⟩ := with1 200 (by decide) rfl c8
    rw [cN_nI (n := w) (by omega)]
    refine y_aload_n C dX8_burnsFor_21 rfl ?_
    refine g_X8_now C dX8_burnsFor_22 (by decide +kernel) (by decide +kernel) ?_
    refine g_X7_hearth C hB dX8_burnsFor_25 (by decide +kernel) (by decide +kernel) ?_
    refine gR_X2_fuel C hB hR dX8_burnsFor_28 (by decide +kernel) (by decide +kernel) ?_
    refine y_if_ne (t := 36) C dX8_burnsFor_31 (by decide) (fun c31 => ?_) (fun c31 => ?_)
    · -- t
      refine y_aload_n C dX8_burnsFor_36 rfl ?_
      refine g_X8_thought C dX8_burnsFor_37 (by decide +kernel) (by decide +kernel) ?_
      refine y_aload_n C dX8_burnsFor_40 rfl ?_
      refine g_X8_now C dX8_burnsFor_41 (by decide +kernel) (by decide +kernel) ?_
      refine y_callVv C (e_copy hB2 hB hBB _ _ hR I.jam) dX8_burnsFor_44 rfl gX8_burnsFor_X7_copyFrom rfl (is_X7 hB2) ⟨rfl, qX7_copyFrom⟩ ⟨rfl, rfl⟩ ⟨Nat.le_of_ble_eq_true rfl, Nat.le_of_ble_eq_true rfl⟩ rfl (Nat.le_of_ble_eq_true rfl) ⟨Nat.zero_le _, Nat.zero_le _⟩ (fun σ2 τ2 hq => ?_)
      obtain ⟨hR2, hF2, rfl⟩ := hq
      refine y_iconst (v := 1) C dX8_burnsFor_47 (by decide) ?_
      refine y_istore_n C dX8_burnsFor_48 (L' := [_, _, _]) (Nat.lt_of_lt_of_le (by decide : (2 : Nat) < 3) (Nat.le_refl _)) rfl ?_
      refine l_X8_burnsFor C σ2 τ (by omega) (mBuF r 0 w) (fun a pc9 v2 σ3 h9 ha hF3 => ?_) w 0 (Nat.zero_add _) r ne t I hs (by omega) rfl σ2 hR2 Fr.rf
      have hF9 := hF2.trans hF3
      have hq : kW (nI w) 1 200 = 0 ∧ a = mBFo r w ∧ Cl σ σ3 τ τ r kp qs := ⟨by unfold kW; rw [if_neg c8], by unfold mBFo; rw [if_neg c31]; exact ha, ⟨hR.k28 hF9, hC.k28 hF9, hF9.mono cS_28, rfl⟩⟩
      rcases h9 with rfl | rfl
      · exact z_iret C rfl dX8_burnsFor_76 hq
      · exact z_iret C rfl dX8_burnsFor_84 hq
    · -- f
      refine y_iconst (v := 0) C dX8_burnsFor_34 (by decide) ?_
      exact z_iret C rfl dX8_burnsFor_35 (⟨by unfold kW; rw [if_neg c8], by unfold mBFo; rw [if_pos c31], ⟨hR, hC, Fr.rf, rfl⟩⟩)
  · -- f
    exact z_thr C0 rfl (ik := 30) (ic := 34) (cls := eIA) (by decide) twX8_burnsFor_a (is := 236) (text := "limit is not 1 to 200") (by decide +kernel) dX8_burnsFor_11 dX8_burnsFor_14 dX8_burnsFor_15 dX8_burnsFor_17 dX8_burnsFor_20 ⟨Nat.le_of_ble_eq_true rfl, Nat.le_of_ble_eq_true rfl, Nat.le_refl _, Nat.le_refl _⟩ rfl (⟨rfl, by unfold kW; rw [if_pos c8]⟩)
set_option maxHeartbeats 4000000 in
set_option maxRecDepth 100000 in
theorem l_X9_burnsFor {x : xC} (C : Cx x mX9_burnsFor) (σ : xS) (τ : xT) {R ns nr nn : Nat} (hl : nn ≤ 1000000) (fin : Int32) {Z : State → Prop} (kx : ∀ (q : Rw) (k : Nat) (σ1 : xS) (v3 : Option Value), σ1 166 = q → Fr (fun q => q = 166 ∨ q = 169) σ σ1 → (if q 8 = 0 then nI k else -1) = fin → Y x 53 [some (.ref 165), some (.int (nI nn)), some (.int (nI k)), v3] [] σ1 τ 0 0 Z) : ∀ n k : Nat, k + n = nn → ∀ (q : Rw) (e t1 : Nat) (v3 : Option Value), Inv q R ns nr e t1 (t1 + 1) → Sk q → t1 + n ≤ 1000000 → (if q 8 = 0 then nI k else mBuF q k n) = fin → ∀ σ1 : xS, σ1 166 = q → Fr (fun q => q = 166 ∨ q = 169) σ σ1 → Y x 27 [some (.ref 165), some (.int (nI nn)), some (.int (nI k)), v3] [] σ1 τ 0 0 Z := by
  intro n
  induction n with
  | zero =>
    intro k hk
    intro q e t1 v3 Iq hsq ht1 hf σ1 hM1 hF1
    refine y_iload_n C dX9_burnsFor_27 rfl ?_
    refine y_iload_n C dX9_burnsFor_28 rfl ?_
    refine y_icmp_ge (t := 53) C dX9_burnsFor_29 (by decide) (fun c29 => ?_) (fun c29 => absurd (by rw [show k = nn by omega]; exact Int32.le_refl _) c29)
    exact kx q k σ1 _ hM1 hF1 (by simp only [mBuF] at hf; exact hf)
  | succ n ih =>
    intro k hk
    intro q e t1 v3 Iq hsq ht1 hf σ1 hM1 hF1
    refine y_iload_n C dX9_burnsFor_27 rfl ?_
    refine y_iload_n C dX9_burnsFor_28 rfl ?_
    refine y_icmp_ge (t := 53) C dX9_burnsFor_29 (by decide) (fun c29 => absurd c29 (nI_ge (by omega) (by omega))) (fun c29 => ?_)
    refine y_aload_n C dX9_burnsFor_32 rfl ?_
    refine g_X9_now C dX9_burnsFor_33 (by decide +kernel) (by decide +kernel) ?_
    refine y_bipush (v := 8) C dX9_burnsFor_36 (by decide) ?_
    refine mA C hM1 8 rfl (by decide) dX9_burnsFor_38 ?_
    refine y_if_le (t := 53) C dX9_burnsFor_39 (by decide) (fun kc39 => ?_) (fun kc39 => ?_)
    · -- t
      have k8 : q 8 = 0 := (le_0 Iq.2.2.2.2.2.1.2.2.2.2.2.1.1).mp kc39
      exact kx q k σ1 _ hM1 hF1 (by rw [if_pos k8] at hf ⊢; exact hf)
    · -- f
      have k8 : ¬ q 8 = 0 := fun z => kc39 ((le_0 Iq.2.2.2.2.2.1.2.2.2.2.2.1.1).mpr z)
      refine y_aload_n C dX9_burnsFor_42 rfl ?_
      refine y_callVi C (e_X9_minutes _ _ hM1 Iq hsq (by omega)) dX9_burnsFor_43 rfl gX9_burnsFor_X9_minutes rfl (is_X9) ⟨rfl, qX9_minutes⟩ ⟨rfl, rfl⟩ ⟨Nat.le_of_ble_eq_true rfl, Nat.le_of_ble_eq_true rfl⟩ rfl (Nat.le_of_ble_eq_true rfl) ⟨Nat.zero_le _, Nat.zero_le _⟩ (fun v2 σ2 τ2 hq => ?_)
      obtain ⟨rfl, hM2, hF2, rfl⟩ := hq
      refine y_istore_n C dX9_burnsFor_46 (L' := [_, _, _, _]) (Nat.lt_of_lt_of_le (by decide : (3 : Nat) < 4) (Nat.le_refl _)) rfl ?_
      refine y_iinc C dX9_burnsFor_47 (L' := [_, _, _, _]) rfl (nI_1 k) rfl ?_
      refine y_goto (t := 27) C dX9_burnsFor_50 (by decide) ?_
      exact ih (k + 1) (by omega) (mMin q) (e - mDue (upd q 7 (q 7 + 1))) (t1 + 1) _ (Iq.min hsq (by omega)) (Sk.min Iq hsq (by omega)) (by omega) (by
        rw [if_neg k8] at hf
        rw [← hf]
        simp only [mBuF]) σ2 hM2 (hF1.trans hF2)
set_option maxHeartbeats 4000000 in
set_option maxRecDepth 100000 in
theorem e_X9_burnsFor (σ : xS) (τ : xT) {r : Rw} {R ns nr ne t kp : Nat} {qs : Nat → Rw} (hM : σ 166 = r) (hC : RecM σ kp qs) (hk : kp ≤ 4) (I : Inv r R ns nr ne t (t + 1)) (hs : Sk r) (ht : t + 200 ≤ 1000000) (u : Int32) : Xi mX9_burnsFor [.ref 165, .int u] σ τ (QM (kW u 1 200) (mBFo r (cN u)) σ τ r kp qs (r) (kp) (qs)) := by
  have hR4 := I.1.1.2
  have hs8 := I.1.2.1.2
  have hr8 := I.1.2.2.1.2
  have he20 := I.1.2.2.2.1.2
  refine Xi_mk (L := [some (.ref 165), some (.int u), none, none]) (by decide) rfl (Nat.le_of_ble_eq_true rfl) rfl (fun x C => ?_)
  refine y_aload_n C dX9_burnsFor_0 rfl ?_
  refine y_join (t := 13) (v := .int (kW u 1 200)) ?_ (fun K1 => ?_)
  ·
    refine y_callVi C (e_X9_refused _ _ hM hC _) dX9_burnsFor_13 rfl gX9_burnsFor_X9_refused rfl (is_X9) ⟨rfl, qX9_refused⟩ ⟨rfl, rfl⟩ ⟨Nat.le_of_ble_eq_true rfl, Nat.le_of_ble_eq_true rfl⟩ rfl (Nat.le_of_ble_eq_true rfl) ⟨Nat.zero_le _, Nat.zero_le _⟩ (fun v1 σ1 τ1 hq => ?_)
    obtain ⟨rfl, hM1, hC1, hr1, hF1, rfl⟩ := hq
    refine y_if_eq (t := 21) C dX9_burnsFor_16 (by decide) (fun c16 => ?_) (fun c16 => ?_)
    · -- t
      have hk0 : kW u 1 200 = 0 := (ref0 (kW_p _ _ _)).mp c16
      obtain ⟨w, hw1, hw, rfl⟩ := with1 200 (by decide) rfl (kW_0 hk0)
      rw [cN_nI (n := w) (by omega)]
      refine y_aload_n C dX9_burnsFor_21 rfl ?_
      refine y_callVv C (e_keepsR _ _ hM1) dX9_burnsFor_22 rfl gX9_burnsFor_X9_keeps rfl (is_X9) ⟨rfl, qX9_keeps⟩ ⟨rfl, rfl⟩ ⟨Nat.le_of_ble_eq_true rfl, Nat.le_of_ble_eq_true rfl⟩ rfl (Nat.le_of_ble_eq_true rfl) ⟨Nat.zero_le _, Nat.zero_le _⟩ (fun σ2 τ2 hq => ?_)
      obtain ⟨hK2, hF2, rfl⟩ := hq
      have hM2 : σ2 166 = r := by rw [hF2 166 (by decide)]; exact hM1
      refine y_iconst (v := 0) C dX9_burnsFor_25 (by decide) ?_
      refine y_istore_n C dX9_burnsFor_26 (L' := [_, _, _, _]) (Nat.lt_of_lt_of_le (by decide : (2 : Nat) < 4) (Nat.le_refl _)) rfl ?_
      refine l_X9_burnsFor C σ2 τ (by omega) (if r 8 = 0 then nI 0 else mBuF r 0 w) (fun q k σ3 v3 hM3 hF3 hf => ?_) w 0 (Nat.zero_add _) r ne t _ I hs (by omega) rfl σ2 hM2 Fr.rf
      refine y_join (t := 68) (v := .int (if q 8 = 0 then 1 else 0)) ?_ (fun K53 => ?_)
      ·
        refine y_istore_n C dX9_burnsFor_68 (L' := [_, _, _, _]) (Nat.lt_of_lt_of_le (by decide : (3 : Nat) < 4) (Nat.le_refl _)) rfl ?_
        refine y_aload_n C dX9_burnsFor_69 rfl ?_
        refine y_callVv C (e_returnsR _ _ (show σ3 168 = r by rw [hF3 168 (by decide)]; exact hK2)) dX9_burnsFor_70 rfl gX9_burnsFor_X9_returns rfl (is_X9) ⟨rfl, qX9_returns⟩ ⟨rfl, rfl⟩ ⟨Nat.le_of_ble_eq_true rfl, Nat.le_of_ble_eq_true rfl⟩ rfl (Nat.le_of_ble_eq_true rfl) ⟨Nat.zero_le _, Nat.zero_le _⟩ (fun σ5 τ5 hq => ?_)
        obtain ⟨hM5, hF5, rfl⟩ := hq
        refine y_iload_n C dX9_burnsFor_73 rfl ?_
        refine y_if_eq (t := 81) C dX9_burnsFor_74 (by decide) (fun c74 => ?_) (fun c74 => ?_)
        · -- t
          rw [if_neg (gd1_f c74)] at hf
          refine y_iconst (v := -1) C dX9_burnsFor_81 (by decide) ?_
          exact y_iret C rfl dX9_burnsFor_82 (⟨by rw [hF5 165 (by decide), hF3 165 (by decide), hF2 165 (by decide)]; exact hr1, Or.inl ⟨hk0, hf, hM5, ((hC1.k8 hF2).k69 hF3).k6 hF5, (((hF1.mono mS_5).trans (hF2.mono mS_8)).trans (hF3.mono mS_69)).trans (hF5.mono mS_6), rfl⟩⟩)
        · -- f
          rw [if_pos (gd1_t c74)] at hf
          refine y_iload_n C dX9_burnsFor_77 rfl ?_
          refine y_goto (t := 82) C dX9_burnsFor_78 (by decide) ?_
          exact y_iret C rfl dX9_burnsFor_82 (⟨by rw [hF5 165 (by decide), hF3 165 (by decide), hF2 165 (by decide)]; exact hr1, Or.inl ⟨hk0, hf, hM5, ((hC1.k8 hF2).k69 hF3).k6 hF5, (((hF1.mono mS_5).trans (hF2.mono mS_8)).trans (hF3.mono mS_69)).trans (hF5.mono mS_6), rfl⟩⟩)
      ·
        refine y_aload_n C dX9_burnsFor_53 rfl ?_
        refine g_X9_now C dX9_burnsFor_54 (by decide +kernel) (by decide +kernel) ?_
        refine y_bipush (v := 8) C dX9_burnsFor_57 (by decide) ?_
        refine mA C hM3 8 rfl (by decide) dX9_burnsFor_59 ?_
        refine y_if_ne (t := 67) C dX9_burnsFor_60 (by decide) (fun c60 => ?_) (fun c60 => ?_)
        · -- t
          refine y_iconst (v := 0) C dX9_burnsFor_67 (by decide) ?_
          exact y_kE K53 (by first | (rw [if_pos c60]; done) | (rw [if_neg c60]; done))
        · -- f
          refine y_iconst (v := 1) C dX9_burnsFor_63 (by decide) ?_
          refine y_goto (t := 68) C dX9_burnsFor_64 (by decide) ?_
          exact y_kE K53 (by first | (rw [if_pos c60]; done) | (rw [if_neg c60]; done))
    · -- f
      have hkn : ¬ kW u 1 200 = 0 := fun z => c16 ((ref0 (kW_p _ _ _)).mpr z)
      refine y_iconst (v := 0) C dX9_burnsFor_19 (by decide) ?_
      exact y_iret C rfl dX9_burnsFor_20 (⟨hr1, Or.inr ⟨hkn, hM1, hC1, hF1.mono mS_5, rfl⟩⟩)
  ·
    refine y_iload_n C dX9_burnsFor_1 rfl ?_
    refine y_callSi C (e_X9_isAhead _ _ _) dX9_burnsFor_2 rfl gX9_burnsFor_X9_isAhead rfl qX9_isAhead ⟨rfl, rfl⟩ ⟨Nat.le_of_ble_eq_true rfl, Nat.le_of_ble_eq_true rfl⟩ rfl (Nat.le_of_ble_eq_true rfl) ⟨Nat.zero_le _, Nat.zero_le _⟩ (fun v1 σ1 τ1 hq => ?_)
    obtain ⟨rfl, rfl, rfl⟩ := hq
    refine y_if_eq (t := 12) C dX9_burnsFor_5 (by decide) (fun c5 => ?_) (fun c5 => ?_)
    · -- t
      refine y_iconst (v := 1) C dX9_burnsFor_12 (by decide) ?_
      exact y_kE K1 (by unfold kW; first | (rw [if_pos c5]; done) | (rw [if_neg c5]; done))
    · -- f
      refine y_iconst (v := 0) C dX9_burnsFor_8 (by decide) ?_
      refine y_goto (t := 13) C dX9_burnsFor_9 (by decide) ?_
      exact y_kE K1 (by unfold kW; first | (rw [if_pos c5]; done) | (rw [if_neg c5]; done))
