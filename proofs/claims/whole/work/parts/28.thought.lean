set_option maxHeartbeats 4000000 in
set_option maxRecDepth 100000 in
theorem l_X8_firstAlarm {x : xC} (C : Cx x mX8_firstAlarm) (σ : xS) (τ : xT) {R ns nr : Nat} (hR4 : R ≤ 4) (i lim : Nat) (hi : i < R) (hl : lim ≤ 1000000) (fin : Int32) {Z : State → Prop} (kx : ∀ (a : Int32) (pc9 : Nat) (v3 : Option Value) (σ1 : xS), (pc9 = 30 ∨ pc9 = 38) → a = fin → Fr (wS 28) σ σ1 → Y x pc9 [some (.ref 0), some (.int (nI i)), some (.int (nI lim)), v3] [.int a] σ1 τ 0 0 Z) : ∀ n k : Nat, k + n = lim → ∀ (q : Rw) (e t1 : Nat), Inv q R ns nr e t1 (t1 + 1) → Sk q → t1 + n ≤ 1000000 → mFaF i q k n = fin → ∀ σ1 : xS, Rel σ1 28 q → Fr (wS 28) σ σ1 → Y x 2 [some (.ref 0), some (.int (nI i)), some (.int (nI lim)), some (.int (nI (k + 1)))] [] σ1 τ 0 0 Z := by
  intro n
  induction n with
  | zero =>
    intro k hk
    intro q e t1 Iq hsq ht1 hf σ1 hR1 hF1
    simp only [mFaF] at hf
    have hB : isW 28 := Or.inr (Or.inl rfl)
    refine y_iload_n C dX8_firstAlarm_2 rfl ?_
    refine y_iload_n C dX8_firstAlarm_3 rfl ?_
    refine y_icmp_gt (t := 37) C dX8_firstAlarm_4 (by decide) (fun c4 => ?_) (fun c4 => absurd (nI_lt (by omega) (by omega)) c4)
    refine y_iconst (v := -1) C dX8_firstAlarm_37 (by decide) ?_
    exact kx _ 38 _ σ1 (Or.inr rfl) hf hF1
  | succ n ih =>
    intro k hk
    intro q e t1 Iq hsq ht1 hf σ1 hR1 hF1
    have hB : isW 28 := Or.inr (Or.inl rfl)
    refine y_iload_n C dX8_firstAlarm_2 rfl ?_
    refine y_iload_n C dX8_firstAlarm_3 rfl ?_
    refine y_icmp_gt (t := 37) C dX8_firstAlarm_4 (by decide) (fun c4 => absurd c4 (nI_nlt (by omega) (by omega))) (fun c4 => ?_)
    refine y_aload_n C dX8_firstAlarm_7 rfl ?_
    refine g_X8_thought C dX8_firstAlarm_8 (by decide +kernel) (by decide +kernel) ?_
    refine y_callVi C (e_X7_letMinutePass hB _ _ hR1 Iq hsq (by omega)) dX8_firstAlarm_11 rfl gX8_firstAlarm_X7_letMinutePass rfl (is_X7 hB) ⟨rfl, qX7_letMinutePass⟩ ⟨rfl, rfl⟩ ⟨Nat.le_of_ble_eq_true rfl, Nat.le_of_ble_eq_true rfl⟩ rfl (Nat.le_of_ble_eq_true rfl) ⟨Nat.zero_le _, Nat.zero_le _⟩ (fun v2 σ2 τ2 hq => ?_)
    obtain ⟨rfl, hR2, hF2, rfl⟩ := hq
    refine y_pop C dX8_firstAlarm_14 rfl ?_
    refine y_aload_n C dX8_firstAlarm_15 rfl ?_
    refine g_X8_thought C dX8_firstAlarm_16 (by decide +kernel) (by decide +kernel) ?_
    refine g_X7_alarms C hB dX8_firstAlarm_19 (by decide +kernel) (by decide +kernel) ?_
    refine y_iload_n C dX8_firstAlarm_22 rfl ?_
    refine y_callVi C (e_X0_soundsIn hB _ _ hR2 i (by omega)) dX8_firstAlarm_23 rfl gX8_firstAlarm_X0_soundsIn rfl (is_X0 hB) ⟨rfl, qX0_soundsIn⟩ ⟨rfl, rfl⟩ ⟨Nat.le_of_ble_eq_true rfl, Nat.le_of_ble_eq_true rfl⟩ rfl (Nat.le_of_ble_eq_true rfl) ⟨Nat.zero_le _, Nat.zero_le _⟩ (fun v1 σ1 τ1 hq => ?_)
    obtain ⟨rfl, rfl, rfl⟩ := hq
    refine y_if_eq (t := 31) C dX8_firstAlarm_26 (by decide) (fun kc26 => ?_) (fun kc26 => ?_)
    · -- t
      refine y_iinc C dX8_firstAlarm_31 (L' := [_, _, _, _]) rfl (nI_1 (k + 1)) rfl ?_
      refine y_goto (t := 2) C dX8_firstAlarm_34 (by decide) ?_
      exact ih (k + 1) (by omega) (mMin q) (e - mDue (upd q 7 (q 7 + 1))) (t1 + 1) (Iq.min hsq (by omega)) (Sk.min Iq hsq (by omega)) (by omega) (by rw [← hf]; simp only [mFaF]; rw [if_neg (fun z => z kc26)]) σ2 hR2 (hF1.trans hF2)
    · -- f
      refine y_iload_n C dX8_firstAlarm_29 rfl ?_
      exact kx _ 30 _ σ2 (Or.inl rfl) (by rw [← hf]; simp only [mFaF]; rw [if_pos kc26]) (hF1.trans hF2)
set_option maxHeartbeats 4000000 in
set_option maxRecDepth 100000 in
theorem e_X8_firstAlarm {r : Rw} (σ : xS) (τ : xT) (hR : Rel σ 28 r) {R ns nr ne t : Nat} (I : Inv r R ns nr ne t (t + 1)) (hs : Sk r) (i lim : Nat) (hi : i < R) (ht : t + lim ≤ 1000000) : Xi mX8_firstAlarm [.ref 0, .int (nI i), .int (nI lim)] σ τ (fun v σ1 τ1 => v = mFaF i r 0 lim ∧ Fr (wS 28) σ σ1 ∧ τ = τ1) := by
  have hR4 := I.1.1.2.2
  refine Xi_mk (L := [some (.ref 0), some (.int (nI i)), some (.int (nI lim)), none]) (by decide) rfl (Nat.le_of_ble_eq_true rfl) rfl (fun x C => ?_)
  refine y_iconst (v := 1) C dX8_firstAlarm_0 (by decide) ?_
  refine y_istore_n C dX8_firstAlarm_1 (L' := [_, _, _, _]) (Nat.lt_of_lt_of_le (by decide : (3 : Nat) < 4) (Nat.le_refl _)) rfl ?_
  exact l_X8_firstAlarm C σ τ hR4 i lim hi (by omega) (mFaF i r 0 lim) (fun a pc9 v3 σ1 h9 ha hF => by
    rcases h9 with rfl | rfl
    · exact y_iret C rfl dX8_firstAlarm_30 ⟨ha, hF, rfl⟩
    · exact y_iret C rfl dX8_firstAlarm_38 ⟨ha, hF, rfl⟩) lim 0 (Nat.zero_add _) r ne t I hs ht rfl σ hR Fr.rf
set_option maxHeartbeats 4000000 in
set_option maxRecDepth 100000 in
theorem l_X8_greatestSmoke {x : xC} (C : Cx x mX8_greatestSmoke) (σ : xS) (τ : xT) {R ns nr : Nat} (hR4 : R ≤ 4) (i nn : Nat) (hi : i < R) (hl : nn ≤ 1000000) (o fin : Int32) {Z : State → Prop} (kx : ∀ (σ1 : xS), Fr (wS 28) σ σ1 → Y x 88 [some (.ref 0), some (.int (nI i)), some (.int o), some (.int (nI nn)), some (.int fin), some (.int (nI nn))] [] σ1 τ 0 0 Z) : ∀ n k : Nat, k + n = nn → ∀ (q : Rw) (e t1 : Nat) (m : Int32), Inv q R ns nr e t1 (t1 + 1) → Sk q → t1 + n ≤ 1000000 → mPkF i q n m = fin → ∀ σ1 : xS, Rel σ1 28 q → Fr (wS 28) σ σ1 → Y x 49 [some (.ref 0), some (.int (nI i)), some (.int o), some (.int (nI nn)), some (.int m), some (.int (nI k))] [] σ1 τ 0 0 Z := by
  intro n
  induction n with
  | zero =>
    intro k hk
    intro q e t1 m Iq hsq ht1 hf σ1 hR1 hF1
    have hB : isW 28 := Or.inr (Or.inl rfl)
    refine y_iload C dX8_greatestSmoke_49 rfl ?_
    refine y_iload_n C dX8_greatestSmoke_51 rfl ?_
    refine y_icmp_ge (t := 88) C dX8_greatestSmoke_52 (by decide) (fun c52 => ?_) (fun c52 => absurd (by rw [show k = nn by omega]; exact Int32.le_refl _) c52)
    obtain rfl : k = nn := by omega
    simp only [mPkF] at hf
    rw [hf]
    exact kx σ1 hF1
  | succ n ih =>
    intro k hk
    intro q e t1 m Iq hsq ht1 hf σ1 hR1 hF1
    have hB : isW 28 := Or.inr (Or.inl rfl)
    refine y_iload C dX8_greatestSmoke_49 rfl ?_
    refine y_iload_n C dX8_greatestSmoke_51 rfl ?_
    refine y_icmp_ge (t := 88) C dX8_greatestSmoke_52 (by decide) (fun c52 => absurd c52 (nI_ge (by omega) (by omega))) (fun c52 => ?_)
    refine y_aload_n C dX8_greatestSmoke_55 rfl ?_
    refine g_X8_thought C dX8_greatestSmoke_56 (by decide +kernel) (by decide +kernel) ?_
    refine y_callVi C (e_X7_letMinutePass hB _ _ hR1 Iq hsq (by omega)) dX8_greatestSmoke_59 rfl gX8_greatestSmoke_X7_letMinutePass rfl (is_X7 hB) ⟨rfl, qX7_letMinutePass⟩ ⟨rfl, rfl⟩ ⟨Nat.le_of_ble_eq_true rfl, Nat.le_of_ble_eq_true rfl⟩ rfl (Nat.le_of_ble_eq_true rfl) ⟨Nat.zero_le _, Nat.zero_le _⟩ (fun v2 σ2 τ2 hq => ?_)
    obtain ⟨rfl, hR2, hF2, rfl⟩ := hq
    refine y_pop C dX8_greatestSmoke_62 rfl ?_
    refine y_iload C dX8_greatestSmoke_63 rfl ?_
    refine y_aload_n C dX8_greatestSmoke_65 rfl ?_
    refine g_X8_thought C dX8_greatestSmoke_66 (by decide +kernel) (by decide +kernel) ?_
    refine g_X7_house C hB dX8_greatestSmoke_69 (by decide +kernel) (by decide +kernel) ?_
    refine g_X3_smoke C hB dX8_greatestSmoke_72 (by decide +kernel) (by decide +kernel) ?_
    refine y_iload_n C dX8_greatestSmoke_75 rfl ?_
    refine aR C hB hR2 (20 + i) 2 i 4 (pl_lo20 _ (by omega)) (lv_l (by omega) (by omega)) (by decide) rfl (by decide) rfl (by omega) dX8_greatestSmoke_76 ?_
    refine y_mmax C dX8_greatestSmoke_77 (by decide +kernel) (by decide +kernel) (by decide +kernel) (by decide +kernel) rfl (Nat.le_of_ble_eq_true rfl) (Nat.le_of_ble_eq_true rfl) ⟨Nat.zero_le _, Nat.zero_le _⟩ ?_
    refine y_istore C dX8_greatestSmoke_80 (L' := [_, _, _, _, _, _]) (Nat.lt_of_lt_of_le (by decide : (4 : Nat) < 6) (Nat.le_refl _)) rfl ?_
    refine y_iinc C dX8_greatestSmoke_82 (L' := [_, _, _, _, _, _]) rfl (nI_1 k) rfl ?_
    refine y_goto (t := 49) C dX8_greatestSmoke_85 (by decide) ?_
    exact ih (k + 1) (by omega) (mMin q) (e - mDue (upd q 7 (q 7 + 1))) (t1 + 1) _ (Iq.min hsq (by omega)) (Sk.min Iq hsq (by omega)) (by omega) (by simp only [mPkF] at hf; exact hf) σ2 hR2 (hF1.trans hF2)
set_option maxHeartbeats 4000000 in
set_option maxRecDepth 100000 in
theorem e_X8_greatestSmoke {r : Rw} (σ : xS) (τ : xT) (hR : Rel σ 1 r) {R ns nr ne t : Nat} (I : Inv r R ns nr ne t (t + 1)) (hs : Sk r) (i nn : Nat) (hi : i < R) (ht : t + nn ≤ 1000000) (o : Int32) (ho : 0 ≤ o ∧ o ≤ 8) : Xi mX8_greatestSmoke [.ref 0, .int (nI i), .int o, .int (nI nn)] σ τ (fun v σ1 τ1 => v = mPk r i o nn ∧ Fr (wS 28) σ σ1 ∧ τ = τ1) := by
  have hR4 := I.1.1.2.2
  have hB : isW 28 := Or.inr (Or.inl rfl)
  refine Xi_mk (L := [some (.ref 0), some (.int (nI i)), some (.int o), some (.int (nI nn)), none, none]) (by decide) rfl (Nat.le_of_ble_eq_true rfl) rfl (fun x C => ?_)
  refine y_aload_n C dX8_greatestSmoke_0 rfl ?_
  refine g_X8_thought C dX8_greatestSmoke_1 (by decide +kernel) (by decide +kernel) ?_
  refine y_aload_n C dX8_greatestSmoke_4 rfl ?_
  refine g_X8_now C dX8_greatestSmoke_5 (by decide +kernel) (by decide +kernel) ?_
  refine y_callVv C (e_copy hB (Or.inl rfl) (Or.inr (by decide)) _ _ hR I.2.2.2.2.2.1.2.2.1) dX8_greatestSmoke_8 rfl gX8_greatestSmoke_X7_copyFrom rfl (is_X7 hB) ⟨rfl, qX7_copyFrom⟩ ⟨rfl, rfl⟩ ⟨Nat.le_of_ble_eq_true rfl, Nat.le_of_ble_eq_true rfl⟩ rfl (Nat.le_of_ble_eq_true rfl) ⟨Nat.zero_le _, Nat.zero_le _⟩ (fun σ1 τ1 hq => ?_)
  obtain ⟨hR1, hF1, rfl⟩ := hq
  refine y_aload_n C dX8_greatestSmoke_11 rfl ?_
  refine g_X8_thought C dX8_greatestSmoke_12 (by decide +kernel) (by decide +kernel) ?_
  refine g_X7_rules C hB dX8_greatestSmoke_15 (by decide +kernel) (by decide +kernel) ?_
  refine y_callVv C (e_X5_clearR hB _ _ hR1) dX8_greatestSmoke_18 rfl gX8_greatestSmoke_X5_clear rfl (is_X5 hB) ⟨rfl, qX5_clear⟩ ⟨rfl, rfl⟩ ⟨Nat.le_of_ble_eq_true rfl, Nat.le_of_ble_eq_true rfl⟩ rfl (Nat.le_of_ble_eq_true rfl) ⟨Nat.zero_le _, Nat.zero_le _⟩ (fun σ2 τ2 hq => ?_)
  obtain ⟨hR2, hF2, rfl⟩ := hq
  refine y_aload_n C dX8_greatestSmoke_21 rfl ?_
  refine g_X8_thought C dX8_greatestSmoke_22 (by decide +kernel) (by decide +kernel) ?_
  refine g_X7_hearth C hB dX8_greatestSmoke_25 (by decide +kernel) (by decide +kernel) ?_
  refine y_iload_n C dX8_greatestSmoke_28 rfl ?_
  refine pR_X2_opening C hB hR2 dX8_greatestSmoke_29 (by decide +kernel) (by decide +kernel) (fun σ3 hR3 hF3 => ?_)
  refine y_aload_n C dX8_greatestSmoke_32 rfl ?_
  refine g_X8_thought C dX8_greatestSmoke_33 (by decide +kernel) (by decide +kernel) ?_
  refine g_X7_hearth C hB dX8_greatestSmoke_36 (by decide +kernel) (by decide +kernel) ?_
  refine y_iload_n C dX8_greatestSmoke_39 rfl ?_
  refine pR_X2_target C hB hR3 dX8_greatestSmoke_40 (by decide +kernel) (by decide +kernel) (fun σ4 hR4w hF4 => ?_)
  refine y_iconst (v := 0) C dX8_greatestSmoke_43 (by decide) ?_
  refine y_istore C dX8_greatestSmoke_44 (L' := [_, _, _, _, _, _]) (Nat.lt_of_lt_of_le (by decide : (4 : Nat) < 6) (Nat.le_refl _)) rfl ?_
  refine y_iconst (v := 0) C dX8_greatestSmoke_46 (by decide) ?_
  refine y_istore C dX8_greatestSmoke_47 (L' := [_, _, _, _, _, _]) (Nat.lt_of_lt_of_le (by decide : (5 : Nat) < 6) (Nat.le_refl _)) rfl ?_
  refine l_X8_greatestSmoke C _ _ hR4 i nn hi (by omega) o (mPk r i o nn) (fun σ5 hF5 => ?_) nn 0 (Nat.zero_add _) (mPk0 r o) ne t 0 (I.pk0 ho) (Sk.pk0 hs o) ht rfl σ4 hR4w Fr.rf
  refine y_iload C dX8_greatestSmoke_88 rfl ?_
  exact y_iret C rfl dX8_greatestSmoke_90 (⟨rfl, (((hF1.trans hF2).trans hF3).trans hF4).trans hF5, rfl⟩)
set_option maxHeartbeats 4000000 in
set_option maxRecDepth 100000 in
theorem e_X9_refused (σ : xS) (τ : xT) {r : Rw} (hM : σ 166 = r) {kp : Nat} {qs : Nat → Rw} (hC : RecM σ kp qs) (u : Int32) : Xi mX9_refused [.ref 165, .int u] σ τ (fun v σ1 τ1 => v = (if 0 < u then 1 else 0) ∧ σ1 166 = r ∧ RecM σ1 kp qs ∧ σ1 165 4 = u ∧ Fr (fun a => a = 165) σ σ1 ∧ τ = τ1) := by
  refine Xi_mk (L := [some (.ref 165), some (.int u)]) (by decide) rfl (Nat.le_of_ble_eq_true rfl) rfl (fun x C => ?_)
  refine y_aload_n C dX9_refused_0 rfl ?_
  refine y_iload_n C dX9_refused_1 rfl ?_
  refine p_X9_refusal C dX9_refused_2 (by decide +kernel) (by decide +kernel) ?_
  refine y_iload_n C dX9_refused_5 rfl ?_
  refine y_if_le (t := 13) C dX9_refused_6 (by decide) (fun kc6 => ?_) (fun kc6 => ?_)
  · -- t
    refine y_iconst (v := 0) C dX9_refused_13 (by decide) ?_
    exact y_zret C rfl dX9_refused_14 (by first | exact Or.inl rfl | exact Or.inr rfl) (⟨by first | (rw [if_pos (Int32.not_le.mp kc6)]; done) | (rw [if_neg (Int32.not_lt.mpr kc6)]; done), by rw [ups_ne (by decide)]; exact hM, ⟨by rw [ups_eq, upd_ne (by decide)]; exact hC.1, fun j hj i hi => by rw [ups_ne (by decide)]; exact hC.2 j hj i hi⟩, by rw [ups_eq, upd_eq], Fr.ups rfl, rfl⟩)
  · -- f
    refine y_iconst (v := 1) C dX9_refused_9 (by decide) ?_
    refine y_goto (t := 14) C dX9_refused_10 (by decide) ?_
    exact y_zret C rfl dX9_refused_14 (by first | exact Or.inl rfl | exact Or.inr rfl) (⟨by first | (rw [if_pos (Int32.not_le.mp kc6)]; done) | (rw [if_neg (Int32.not_lt.mpr kc6)]; done), by rw [ups_ne (by decide)]; exact hM, ⟨by rw [ups_eq, upd_ne (by decide)]; exact hC.1, fun j hj i hi => by rw [ups_ne (by decide)]; exact hC.2 j hj i hi⟩, by rw [ups_eq, upd_eq], Fr.ups rfl, rfl⟩)
set_option maxHeartbeats 4000000 in
set_option maxRecDepth 100000 in
theorem l_X9_peakOf {x : xC} (C : Cx x mX9_peakOf) (σ : xS) (τ : xT) {R ns nr : Nat} (hR4 : R ≤ 4) (i nn : Nat) (hi : i < R) (hl : nn ≤ 1000000) (o fin : Int32) {Z : State → Prop} (kx : ∀ (σ1 : xS) (v6 : Option Value), Fr (fun a => a = 166 ∨ a = 169) σ σ1 → Y x 81 [some (.ref 165), some (.int (nI i)), some (.int o), some (.int (nI nn)), some (.int fin), some (.int (nI nn)), v6] [] σ1 τ 0 0 Z) : ∀ n k : Nat, k + n = nn → ∀ (q : Rw) (e t1 : Nat) (m : Int32) (v6 : Option Value), Inv q R ns nr e t1 (t1 + 1) → Sk q → t1 + n ≤ 1000000 → mPkF i q n m = fin → ∀ σ1 : xS, σ1 166 = q → Fr (fun a => a = 166 ∨ a = 169) σ σ1 → Y x 33 [some (.ref 165), some (.int (nI i)), some (.int o), some (.int (nI nn)), some (.int m), some (.int (nI k)), v6] [] σ1 τ 0 0 Z := by
  intro n
  induction n with
  | zero =>
    intro k hk
    intro q e t1 m v6 Iq hsq ht1 hf σ1 hM1 hF1
    refine y_iload C dX9_peakOf_33 rfl ?_
    refine y_iload_n C dX9_peakOf_35 rfl ?_
    refine y_icmp_ge (t := 81) C dX9_peakOf_36 (by decide) (fun c36 => ?_) (fun c36 => absurd (by rw [show k = nn by omega]; exact Int32.le_refl _) c36)
    obtain rfl : k = nn := by omega
    simp only [mPkF] at hf
    rw [hf]
    exact kx σ1 _ hF1
  | succ n ih =>
    intro k hk
    intro q e t1 m v6 Iq hsq ht1 hf σ1 hM1 hF1
    refine y_iload C dX9_peakOf_33 rfl ?_
    refine y_iload_n C dX9_peakOf_35 rfl ?_
    refine y_icmp_ge (t := 81) C dX9_peakOf_36 (by decide) (fun c36 => absurd c36 (nI_ge (by omega) (by omega))) (fun c36 => ?_)
    refine y_aload_n C dX9_peakOf_39 rfl ?_
    refine y_callVi C (e_X9_minutes _ _ hM1 Iq hsq (by omega)) dX9_peakOf_40 rfl gX9_peakOf_X9_minutes rfl (is_X9) ⟨rfl, qX9_minutes⟩ ⟨rfl, rfl⟩ ⟨Nat.le_of_ble_eq_true rfl, Nat.le_of_ble_eq_true rfl⟩ rfl (Nat.le_of_ble_eq_true rfl) ⟨Nat.zero_le _, Nat.zero_le _⟩ (fun v2 σ2 τ2 hq => ?_)
    obtain ⟨rfl, hM2, hF2, rfl⟩ := hq
    refine y_istore C dX9_peakOf_43 (L' := [_, _, _, _, _, _, _]) (Nat.lt_of_lt_of_le (by decide : (6 : Nat) < 7) (Nat.le_refl _)) rfl ?_
    refine y_join (t := 73) (v := .int (if m < mMin q (20 + i) then mMin q (20 + i) else m)) ?_ (fun K45 => ?_)
    ·
      refine y_istore C dX9_peakOf_73 (L' := [_, _, _, _, _, _, _]) (Nat.lt_of_lt_of_le (by decide : (4 : Nat) < 7) (Nat.le_refl _)) rfl ?_
      refine y_iinc C dX9_peakOf_75 (L' := [_, _, _, _, _, _, _]) rfl (nI_1 k) rfl ?_
      refine y_goto (t := 33) C dX9_peakOf_78 (by decide) ?_
      exact ih (k + 1) (by omega) (mMin q) (e - mDue (upd q 7 (q 7 + 1))) (t1 + 1) _ _ (Iq.min hsq (by omega)) (Sk.min Iq hsq (by omega)) (by omega) (by simp only [mPkF] at hf; exact hf) σ2 hM2 (hF1.trans hF2)
    ·
      refine y_aload_n C dX9_peakOf_45 rfl ?_
      refine g_X9_now C dX9_peakOf_46 (by decide +kernel) (by decide +kernel) ?_
      refine y_bipush (v := 20) C dX9_peakOf_49 (by decide) ?_
      refine y_iload_n C dX9_peakOf_51 rfl ?_
      refine y_iadd C dX9_peakOf_52 ?_
      refine mA C hM2 (20 + i) (by simp only [← nI_add, ← pk_mul]; rfl) (by omega) dX9_peakOf_53 ?_
      refine y_iload C dX9_peakOf_54 rfl ?_
      refine y_icmp_le (t := 71) C dX9_peakOf_56 (by decide) (fun kc56 => ?_) (fun kc56 => ?_)
      · -- t
        refine y_iload C dX9_peakOf_71 rfl ?_
        exact y_kE K45 (by first | (rw [if_neg (Int32.not_lt.mpr kc56)]; done) | (rw [if_pos (Int32.not_le.mp kc56)]; done))
      · -- f
        refine y_aload_n C dX9_peakOf_59 rfl ?_
        refine g_X9_now C dX9_peakOf_60 (by decide +kernel) (by decide +kernel) ?_
        refine y_bipush (v := 20) C dX9_peakOf_63 (by decide) ?_
        refine y_iload_n C dX9_peakOf_65 rfl ?_
        refine y_iadd C dX9_peakOf_66 ?_
        refine mA C hM2 (20 + i) (by simp only [← nI_add, ← pk_mul]; rfl) (by omega) dX9_peakOf_67 ?_
        refine y_goto (t := 73) C dX9_peakOf_68 (by decide) ?_
        exact y_kE K45 (by first | (rw [if_neg (Int32.not_lt.mpr kc56)]; done) | (rw [if_pos (Int32.not_le.mp kc56)]; done))
set_option maxHeartbeats 4000000 in
set_option maxRecDepth 100000 in
theorem e_X9_peakOf (σ : xS) (τ : xT) {r : Rw} (hM : σ 166 = r) {R ns nr ne t : Nat} (I : Inv r R ns nr ne t (t + 1)) (hs : Sk r) (i nn : Nat) (hi : i < R) (ht : t + nn ≤ 1000000) (o : Int32) (ho : 0 ≤ o ∧ o ≤ 8) : Xi mX9_peakOf [.ref 165, .int (nI i), .int o, .int (nI nn)] σ τ (fun v σ1 τ1 => v = mPk r i o nn ∧ σ1 166 = r ∧ Fr (fun a => a = 166 ∨ a = 168 ∨ a = 169) σ σ1 ∧ τ = τ1) := by
  have hR4 := I.1.1.2.2
  refine Xi_mk (L := [some (.ref 165), some (.int (nI i)), some (.int o), some (.int (nI nn)), none, none, none]) (by decide) rfl (Nat.le_of_ble_eq_true rfl) rfl (fun x C => ?_)
  refine y_aload_n C dX9_peakOf_0 rfl ?_
  refine y_callVv C (e_keepsR _ _ hM) dX9_peakOf_1 rfl gX9_peakOf_X9_keeps rfl (is_X9) ⟨rfl, qX9_keeps⟩ ⟨rfl, rfl⟩ ⟨Nat.le_of_ble_eq_true rfl, Nat.le_of_ble_eq_true rfl⟩ rfl (Nat.le_of_ble_eq_true rfl) ⟨Nat.zero_le _, Nat.zero_le _⟩ (fun σ1 τ1 hq => ?_)
  obtain ⟨hK1, hF1, rfl⟩ := hq
  have hM1 : σ1 166 = r := by rw [hF1 166 (by decide)]; exact hM
  refine y_aload_n C dX9_peakOf_4 rfl ?_
  refine g_X9_now C dX9_peakOf_5 (by decide +kernel) (by decide +kernel) ?_
  refine y_bipush (v := 11) C dX9_peakOf_8 (by decide) ?_
  refine y_iconst (v := 0) C dX9_peakOf_10 (by decide) ?_
  refine mW C hM1 11 rfl (by decide) dX9_peakOf_11 (fun σ2 hM2 hF2 => ?_)
  refine y_aload_n C dX9_peakOf_12 rfl ?_
  refine g_X9_now C dX9_peakOf_13 (by decide +kernel) (by decide +kernel) ?_
  refine y_iconst (v := 4) C dX9_peakOf_16 (by decide) ?_
  refine y_iload_n C dX9_peakOf_17 rfl ?_
  refine mW C hM2 4 rfl (by decide) dX9_peakOf_18 (fun σ3 hM3 hF3 => ?_)
  refine y_aload_n C dX9_peakOf_19 rfl ?_
  refine g_X9_now C dX9_peakOf_20 (by decide +kernel) (by decide +kernel) ?_
  refine y_bipush (v := 9) C dX9_peakOf_23 (by decide) ?_
  refine y_iload_n C dX9_peakOf_25 rfl ?_
  refine mW C hM3 9 rfl (by decide) dX9_peakOf_26 (fun σ4 hM4 hF4 => ?_)
  refine y_iconst (v := 0) C dX9_peakOf_27 (by decide) ?_
  refine y_istore C dX9_peakOf_28 (L' := [_, _, _, _, _, _, _]) (Nat.lt_of_lt_of_le (by decide : (4 : Nat) < 7) (Nat.le_refl _)) rfl ?_
  refine y_iconst (v := 0) C dX9_peakOf_30 (by decide) ?_
  refine y_istore C dX9_peakOf_31 (L' := [_, _, _, _, _, _, _]) (Nat.lt_of_lt_of_le (by decide : (5 : Nat) < 7) (Nat.le_refl _)) rfl ?_
  refine l_X9_peakOf C _ _ hR4 i nn hi (by omega) o (mPk r i o nn) (fun σ5 v6 hF5 => ?_) nn 0 (Nat.zero_add _) (mPk0 r o) ne t 0 _ (I.pk0 ho) (Sk.pk0 hs o) ht rfl σ4 hM4 Fr.rf
  refine y_aload_n C dX9_peakOf_81 rfl ?_
  refine y_callVv C (e_returnsR _ _ (show σ5 168 = r by rw [hF5 168 (by decide), hF4 168 (by decide), hF3 168 (by decide), hF2 168 (by decide)]; exact hK1)) dX9_peakOf_82 rfl gX9_peakOf_X9_returns rfl (is_X9) ⟨rfl, qX9_returns⟩ ⟨rfl, rfl⟩ ⟨Nat.le_of_ble_eq_true rfl, Nat.le_of_ble_eq_true rfl⟩ rfl (Nat.le_of_ble_eq_true rfl) ⟨Nat.zero_le _, Nat.zero_le _⟩ (fun σ6 τ6 hq => ?_)
  obtain ⟨hM6, hF6, rfl⟩ := hq
  refine y_iload C dX9_peakOf_85 rfl ?_
  exact y_iret C rfl dX9_peakOf_87 (⟨rfl, hM6, (((((hF1.mono (fun a h => Or.inr (Or.inl h))).trans (hF2.mono (fun a h => Or.inl h))).trans (hF3.mono (fun a h => Or.inl h))).trans (hF4.mono (fun a h => Or.inl h))).trans (hF5.mono (fun a h => h.elim Or.inl (fun z => Or.inr (Or.inr z))))).trans (hF6.mono (fun a h => Or.inl h)), rfl⟩)
set_option maxHeartbeats 4000000 in
set_option maxRecDepth 100000 in
theorem l_X9_alarmsWith {x : xC} (C : Cx x mX9_alarmsWith) (σ : xS) (τ : xT) {R ns nr : Nat} (hR4 : R ≤ 4) (i nn : Nat) (hi : i < R) (hl : nn ≤ 1000000) (dd fin : Int32) {Z : State → Prop} (kx : ∀ (s : Int32) (σ1 : xS) (v5 v6 : Option Value), s = (if fin = -1 then 0 else 1) → Fr (fun a => a = 166 ∨ a = 169) σ σ1 → Y x 60 [some (.ref 165), some (.int (nI i)), some (.int (nI nn)), some (.int dd), some (.int s), v5, v6] [] σ1 τ 0 0 Z) : ∀ n k : Nat, k + n = nn → ∀ (q : Rw) (e t1 : Nat) (s : Int32) (v6 : Option Value), Inv q R ns nr e t1 (t1 + 1) → Sk q → t1 + n ≤ 1000000 → (s = 0 ∨ s = 1) → (if s = 0 then mFaF i q k n else nI k) = fin → ∀ σ1 : xS, σ1 166 = q → Fr (fun a => a = 166 ∨ a = 169) σ σ1 → Y x 30 [some (.ref 165), some (.int (nI i)), some (.int (nI nn)), some (.int dd), some (.int s), some (.int (nI k)), v6] [] σ1 τ 0 0 Z := by
  intro n
  induction n with
  | zero =>
    intro k hk
    intro q e t1 s v6 Iq hsq ht1 hs01 hf σ1 hM1 hF1
    refine y_iload C dX9_alarmsWith_30 rfl ?_
    refine y_iload_n C dX9_alarmsWith_32 rfl ?_
    refine y_icmp_ge (t := 60) C dX9_alarmsWith_33 (by decide) (fun c33 => ?_) (fun c33 => absurd (by rw [show k = nn by omega]; exact Int32.le_refl _) c33)
    exact kx s σ1 _ _ (by
      rcases hs01 with z | z
      · rw [if_pos z] at hf
        simp only [mFaF] at hf
        rw [z, ← hf, if_pos rfl]
      · rw [if_neg (by rw [z]; decide)] at hf
        rw [z, ← hf, if_neg (nI_nm1 (by omega))]) hF1
  | succ n ih =>
    intro k hk
    intro q e t1 s v6 Iq hsq ht1 hs01 hf σ1 hM1 hF1
    refine y_iload C dX9_alarmsWith_30 rfl ?_
    refine y_iload_n C dX9_alarmsWith_32 rfl ?_
    refine y_icmp_ge (t := 60) C dX9_alarmsWith_33 (by decide) (fun c33 => absurd c33 (nI_ge (by omega) (by omega))) (fun c33 => ?_)
    refine y_iload C dX9_alarmsWith_36 rfl ?_
    refine y_if_ne (t := 60) C dX9_alarmsWith_38 (by decide) (fun kc38 => ?_) (fun kc38 => ?_)
    · -- t
      exact kx s σ1 _ _ (by
        rw [if_neg kc38] at hf
        rw [← hf, if_neg (nI_nm1 (by omega))]
        exact hs01.resolve_left kc38) hF1
    · -- f
      refine y_aload_n C dX9_alarmsWith_41 rfl ?_
      refine y_callVi C (e_X9_minutes _ _ hM1 Iq hsq (by omega)) dX9_alarmsWith_42 rfl gX9_alarmsWith_X9_minutes rfl (is_X9) ⟨rfl, qX9_minutes⟩ ⟨rfl, rfl⟩ ⟨Nat.le_of_ble_eq_true rfl, Nat.le_of_ble_eq_true rfl⟩ rfl (Nat.le_of_ble_eq_true rfl) ⟨Nat.zero_le _, Nat.zero_le _⟩ (fun v2 σ2 τ2 hq => ?_)
      obtain ⟨rfl, hM2, hF2, rfl⟩ := hq
      refine y_istore C dX9_alarmsWith_45 (L' := [_, _, _, _, _, _, _]) (Nat.lt_of_lt_of_le (by decide : (6 : Nat) < 7) (Nat.le_refl _)) rfl ?_
      refine y_aload_n C dX9_alarmsWith_47 rfl ?_
      refine y_iload_n C dX9_alarmsWith_48 rfl ?_
      refine y_callVi C (e_X9_hasAlarm _ _ hM2 i (by omega)) dX9_alarmsWith_49 rfl gX9_alarmsWith_X9_hasAlarm rfl (is_X9) ⟨rfl, qX9_hasAlarm⟩ ⟨rfl, rfl⟩ ⟨Nat.le_of_ble_eq_true rfl, Nat.le_of_ble_eq_true rfl⟩ rfl (Nat.le_of_ble_eq_true rfl) ⟨Nat.zero_le _, Nat.zero_le _⟩ (fun v1 σ1 τ1 hq => ?_)
      obtain ⟨rfl, rfl, rfl⟩ := hq
      refine y_istore C dX9_alarmsWith_52 (L' := [_, _, _, _, _, _, _]) (Nat.lt_of_lt_of_le (by decide : (4 : Nat) < 7) (Nat.le_refl _)) rfl ?_
      refine y_iinc C dX9_alarmsWith_54 (L' := [_, _, _, _, _, _, _]) rfl (nI_1 k) rfl ?_
      refine y_goto (t := 30) C dX9_alarmsWith_57 (by decide) ?_
      exact ih (k + 1) (by omega) (mMin q) (e - mDue (upd q 7 (q 7 + 1))) (t1 + 1) _ _ (Iq.min hsq (by omega)) (Sk.min Iq hsq (by omega)) (by omega) (mAlaI_01 _ _) (by
        rw [← hf, if_pos kc38]
        simp only [mFaF]
        by_cases z : mAlaI (mMin q) i = 0
        · rw [if_pos z, if_neg (fun y => y z)]
        · rw [if_neg z, if_pos z]) σ2 hM2 (hF1.trans hF2)
theorem Inv.dead {r : Rw} {R ns nr ne t tl : Nat} (I : Inv r R ns nr ne t tl) {d : Nat} (hd : d < ns) (v : Int32) : Inv (upd r (57 + 7 * d + 5) v) R ns nr ne t tl := by
  have h8 := I.1.2.1.2
  exact I.set1 (57 + 7 * d + 5) v (Or.inr ⟨by omega, by omega, by omega⟩) (by omega) (by omega) (by omega) (by omega) (by omega) (by omega) (by omega) (by omega) (by omega) (by omega)
theorem Sk.dead {r : Rw} (h : Sk r) (d : Nat) (v : Int32) : Sk (upd r (57 + 7 * d + 5) v) := by
  intro i hi
  rw [upd_ne (by omega)]
  exact h i hi
set_option maxHeartbeats 4000000 in
set_option maxRecDepth 100000 in
theorem e_X9_alarmsWith (σ : xS) (τ : xT) {r : Rw} (hM : σ 166 = r) {R ns nr ne t : Nat} (I : Inv r R ns nr ne t (t + 1)) (hs : Sk r) (i nn : Nat) (hi : i < R) (ht : t + nn ≤ 1000000) (dd : Int32) (q0 : Rw) (hq0 : (dd = -1 ∧ q0 = r) ∨ ∃ d, d < ns ∧ dd = nI d ∧ q0 = upd r (57 + 7 * d + 5) 1) : Xi mX9_alarmsWith [.ref 165, .int (nI i), .int (nI nn), .int dd] σ τ (fun v σ1 τ1 => v = (if mFaF i q0 0 nn = -1 then 0 else 1) ∧ σ1 166 = r ∧ Fr (fun a => a = 166 ∨ a = 168 ∨ a = 169) σ σ1 ∧ τ = τ1) := by
  have hR4 := I.1.1.2.2
  have hs8 := I.1.2.1.2
  have I0 : Inv q0 R ns nr ne t (t + 1) := by
    rcases hq0 with h | ⟨d, hd, -, h⟩
    · rw [h.2]; exact I
    · rw [h]; exact I.dead hd 1
  have hs0 : Sk q0 := by
    rcases hq0 with h | ⟨d, hd, -, h⟩
    · rw [h.2]; exact hs
    · rw [h]; exact hs.dead d 1
  refine Xi_mk (L := [some (.ref 165), some (.int (nI i)), some (.int (nI nn)), some (.int dd), none, none, none]) (by decide) rfl (Nat.le_of_ble_eq_true rfl) rfl (fun x C => ?_)
  refine y_aload_n C dX9_alarmsWith_0 rfl ?_
  refine y_callVv C (e_keepsR _ _ hM) dX9_alarmsWith_1 rfl gX9_alarmsWith_X9_keeps rfl (is_X9) ⟨rfl, qX9_keeps⟩ ⟨rfl, rfl⟩ ⟨Nat.le_of_ble_eq_true rfl, Nat.le_of_ble_eq_true rfl⟩ rfl (Nat.le_of_ble_eq_true rfl) ⟨Nat.zero_le _, Nat.zero_le _⟩ (fun σ1 τ1 hq => ?_)
  obtain ⟨hK1, hF1, rfl⟩ := hq
  have hM1 : σ1 166 = r := by rw [hF1 166 (by decide)]; exact hM
  refine y_joinS (t := 24) (P := fun σ2 => σ2 166 = q0 ∧ Fr (fun a => a = 166) σ1 σ2) (fun σ2 hP4 => ?_) (fun K4 => ?_)
  ·
    obtain ⟨hM2, hF2⟩ := hP4
    refine y_iconst (v := 0) C dX9_alarmsWith_24 (by decide) ?_
    refine y_istore C dX9_alarmsWith_25 (L' := [_, _, _, _, _, _, _]) (Nat.lt_of_lt_of_le (by decide : (4 : Nat) < 7) (Nat.le_refl _)) rfl ?_
    refine y_iconst (v := 0) C dX9_alarmsWith_27 (by decide) ?_
    refine y_istore C dX9_alarmsWith_28 (L' := [_, _, _, _, _, _, _]) (Nat.lt_of_lt_of_le (by decide : (5 : Nat) < 7) (Nat.le_refl _)) rfl ?_
    refine l_X9_alarmsWith C _ _ hR4 i nn hi (by omega) dd (mFaF i q0 0 nn) (fun s σ3 v5 v6 hs9 hF3 => ?_) nn 0 (Nat.zero_add _) q0 ne t 0 _ I0 hs0 ht (Or.inl rfl) (if_pos rfl) σ2 hM2 Fr.rf
    refine y_aload_n C dX9_alarmsWith_60 rfl ?_
    refine y_callVv C (e_returnsR _ _ (show σ3 168 = r by rw [hF3 168 (by decide), hF2 168 (by decide)]; exact hK1)) dX9_alarmsWith_61 rfl gX9_alarmsWith_X9_returns rfl (is_X9) ⟨rfl, qX9_returns⟩ ⟨rfl, rfl⟩ ⟨Nat.le_of_ble_eq_true rfl, Nat.le_of_ble_eq_true rfl⟩ rfl (Nat.le_of_ble_eq_true rfl) ⟨Nat.zero_le _, Nat.zero_le _⟩ (fun σ6 τ6 hq => ?_)
    obtain ⟨hM6, hF6, rfl⟩ := hq
    refine y_iload C dX9_alarmsWith_64 rfl ?_
    exact y_zret C rfl dX9_alarmsWith_66 (by rw [hs9]; split <;> simp) (⟨hs9, hM6, (((hF1.mono (fun a h => Or.inr (Or.inl h))).trans (hF2.mono (fun a h => Or.inl h))).trans (hF3.mono (fun a h => h.elim Or.inl (fun z => Or.inr (Or.inr z))))).trans (hF6.mono (fun a h => Or.inl h)), rfl⟩)
  ·
    refine y_iload_n C dX9_alarmsWith_4 rfl ?_
    refine y_iconst (v := -1) C dX9_alarmsWith_5 (by decide) ?_
    refine y_icmp_eq (t := 24) C dX9_alarmsWith_6 (by decide) (fun kc6 => ?_) (fun kc6 => ?_)
    · -- t
      have eq0 : dd = -1 → q0 = r := fun z => by
        rcases hq0 with h | ⟨d, hd, e, -⟩
        · exact h.2
        · exact absurd (e.symm.trans z) (nI_nm1 (by omega))
      first
        | exact K4 _ ⟨hM9.trans ed2.symm, hF9⟩
        | exact K4 _ ⟨by rw [hM1]; exact (eq0 kc6).symm, Fr.rf⟩
    · -- f
      obtain ⟨d, hd, ed, ed2⟩ := hq0.resolve_left (fun z => kc6 z.1)
      refine y_aload_n C dX9_alarmsWith_9 rfl ?_
      refine g_X9_now C dX9_alarmsWith_10 (by decide +kernel) (by decide +kernel) ?_
      refine y_bipush (v := 57) C dX9_alarmsWith_13 (by decide) ?_
      refine y_bipush (v := 7) C dX9_alarmsWith_15 (by decide) ?_
      refine y_iload_n C dX9_alarmsWith_17 rfl ?_
      refine y_imul C dX9_alarmsWith_18 ?_
      refine y_iadd C dX9_alarmsWith_19 ?_
      refine y_iconst (v := 5) C dX9_alarmsWith_20 (by decide) ?_
      refine y_iadd C dX9_alarmsWith_21 ?_
      refine y_iconst (v := 1) C dX9_alarmsWith_22 (by decide) ?_
      refine mW C hM1 (57 + 7 * d + 5) (by rw [ed]; simp only [← nI_add, ← pk_mul]; rfl) (by omega) dX9_alarmsWith_23 (fun σ9 hM9 hF9 => ?_)
      first
        | exact K4 _ ⟨hM9.trans ed2.symm, hF9⟩
        | exact K4 _ ⟨by rw [hM1]; exact (eq0 kc6).symm, Fr.rf⟩
theorem evt_win {t : Nat} (ht : t ≤ 1000000) (m : Int32) : mWithI m (nI t + 1) (nI t + 999) = 0 ↔ (m ≤ nI t ∨ ¬ m ≤ nI t + 999) := by
  have e1 : (nI t + 1).toInt = (t : Int) + 1 := by rw [nI_1, nI_toInt (by omega)]; omega
  have e2 : (nI t + 999).toInt = (t : Int) + 999 := by rw [show (999 : Int32) = nI 999 from rfl, nI_add, nI_toInt (by omega)]; omega
  rw [mWithI_eq0, Int32.le_iff_toInt_le, Int32.le_iff_toInt_le, Int32.le_iff_toInt_le, e1, e2, nI_toInt (by omega)]
  omega
set_option maxHeartbeats 4000000 in
set_option maxRecDepth 100000 in
theorem e_X9_isEvent (σ : xS) (τ : xT) {r : Rw} (hM : σ 166 = r) {R ns nr ne t tl : Nat} (I : Inv r R ns nr ne t tl) (m kd a b : Int32) : Xi mX9_isEvent [.ref 165, .int m, .int kd, .int a, .int b] σ τ (fun o σ1 τ1 => o = (if mWithI m (r 7 + 1) (r 7 + 999) = 0 then 0 else mEvtI r kd a b) ∧ σ = σ1 ∧ τ = τ1) := by
  have hwn := evt_win I.1.2.2.2.2.2 m
  rw [← I.1.2.2.2.2.1] at hwn
  refine Xi_mk (L := [some (.ref 165), some (.int m), some (.int kd), some (.int a), some (.int b)]) (by decide) rfl (Nat.le_of_ble_eq_true rfl) rfl (fun x C => ?_)
  refine y_iload_n C dX9_isEvent_0 rfl ?_
  refine y_aload_n C dX9_isEvent_1 rfl ?_
  refine g_X9_now C dX9_isEvent_2 (by decide +kernel) (by decide +kernel) ?_
  refine y_bipush (v := 7) C dX9_isEvent_5 (by decide) ?_
  refine mA C hM 7 rfl (by decide) dX9_isEvent_7 ?_
  refine y_icmp_le (t := 26) C dX9_isEvent_8 (by decide) (fun kc8 => ?_) (fun kc8 => ?_)
  · -- t
    refine y_iconst (v := 0) C dX9_isEvent_26 (by decide) ?_
    exact y_zret C rfl dX9_isEvent_27 (by first | exact Or.inl rfl | exact Or.inr rfl) (⟨by rw [if_pos (hwn.mpr (by first | exact Or.inl kc8 | exact Or.inr kc23))], rfl, rfl⟩)
  · -- f
    refine y_iload_n C dX9_isEvent_11 rfl ?_
    refine y_aload_n C dX9_isEvent_12 rfl ?_
    refine g_X9_now C dX9_isEvent_13 (by decide +kernel) (by decide +kernel) ?_
    refine y_bipush (v := 7) C dX9_isEvent_16 (by decide) ?_
    refine mA C hM 7 rfl (by decide) dX9_isEvent_18 ?_
    refine y_sipush (v := 999) C dX9_isEvent_19 (by decide) ?_
    refine y_iadd C dX9_isEvent_22 ?_
    refine y_icmp_le (t := 28) C dX9_isEvent_23 (by decide) (fun kc23 => ?_) (fun kc23 => ?_)
    · -- t
      have hw : ¬ mWithI m (r 7 + 1) (r 7 + 999) = 0 := fun z => (hwn.mp z).elim kc8 (fun y => y kc23)
      clear hwn kc8 kc23
      refine y_iload_n C dX9_isEvent_28 rfl ?_
      by_cases w29_0 : kd = 0
      ·
        refine y_tableIn (t := 64) C dX9_isEvent_29 (by rw [w29_0]; decide) (by rw [w29_0]; decide) (by first | (rw [w29_0]; done) | (rw [w29_0]; rfl)) (by decide) ?_
        refine y_aload_n C dX9_isEvent_64 rfl ?_
        refine y_iload_n C dX9_isEvent_65 rfl ?_
        refine y_callVi C (e_X9_isRoom _ _ hM _) dX9_isEvent_66 rfl gX9_isEvent_X9_isRoom rfl (is_X9) ⟨rfl, qX9_isRoom⟩ ⟨rfl, rfl⟩ ⟨Nat.le_of_ble_eq_true rfl, Nat.le_of_ble_eq_true rfl⟩ rfl (Nat.le_of_ble_eq_true rfl) ⟨Nat.zero_le _, Nat.zero_le _⟩ (fun v1 σ1 τ1 hq => ?_)
        obtain ⟨rfl, rfl, rfl⟩ := hq
        refine y_topE (mRoomI r a) (isRoom_eq I a) ?_
        refine y_if_eq (t := 98) C dX9_isEvent_69 (by decide) (fun c69 => ?_) (fun c69 => ?_)
        · -- t
          refine y_iconst (v := 0) C dX9_isEvent_98 (by decide) ?_
          exact y_zret C rfl dX9_isEvent_99 (by first | exact Or.inl rfl | exact Or.inr rfl) (⟨by rw [if_neg hw]; simp only [mEvtI]; rw [if_pos w29_0]; (try simp only [mWithI_ne, mWithI_eq0, mRoomI_ne, mRoomI_eq0, mPlacI_ne, mPlacI_eq0, mSensI_ne, mSensI_eq0] at *); first | (rw [if_pos (by simp_all)]; done) | (rw [if_neg (fun q => by first | exact absurd q.1 (by assumption) | exact absurd q.2 (by assumption) | exact absurd q.2.1 (by assumption) | exact absurd q.2.2 (by assumption) | exact q.2.2 (by assumption))]; done), rfl, rfl⟩)
        · -- f
          refine y_iload C dX9_isEvent_72 rfl ?_
          refine y_iconst (v := 0) C dX9_isEvent_74 (by decide) ?_
          refine y_aload_n C dX9_isEvent_75 rfl ?_
          refine g_X9_now C dX9_isEvent_76 (by decide +kernel) (by decide +kernel) ?_
          refine y_bipush (v := 6) C dX9_isEvent_79 (by decide) ?_
          refine mA C hM 6 rfl (by decide) dX9_isEvent_81 ?_
          refine y_callSi C (e_X9_within _ _ _ _ _) dX9_isEvent_82 rfl gX9_isEvent_X9_within rfl qX9_within ⟨rfl, rfl⟩ ⟨Nat.le_of_ble_eq_true rfl, Nat.le_of_ble_eq_true rfl⟩ rfl (Nat.le_of_ble_eq_true rfl) ⟨Nat.zero_le _, Nat.zero_le _⟩ (fun v1 σ1 τ1 hq => ?_)
          obtain ⟨rfl, rfl, rfl⟩ := hq
          refine y_topE (mPlacI r b) rfl ?_
          refine y_if_eq (t := 98) C dX9_isEvent_85 (by decide) (fun c85 => ?_) (fun c85 => ?_)
          · -- t
            refine y_iconst (v := 0) C dX9_isEvent_98 (by decide) ?_
            exact y_zret C rfl dX9_isEvent_99 (by first | exact Or.inl rfl | exact Or.inr rfl) (⟨by rw [if_neg hw]; simp only [mEvtI]; rw [if_pos w29_0]; (try simp only [mWithI_ne, mWithI_eq0, mRoomI_ne, mRoomI_eq0, mPlacI_ne, mPlacI_eq0, mSensI_ne, mSensI_eq0] at *); first | (rw [if_pos (by simp_all)]; done) | (rw [if_neg (fun q => by first | exact absurd q.1 (by assumption) | exact absurd q.2 (by assumption) | exact absurd q.2.1 (by assumption) | exact absurd q.2.2 (by assumption) | exact q.2.2 (by assumption))]; done), rfl, rfl⟩)
          · -- f
            refine y_iload_n C dX9_isEvent_88 rfl ?_
            refine y_iload C dX9_isEvent_89 rfl ?_
            refine y_icmp_eq (t := 98) C dX9_isEvent_91 (by decide) (fun c91 => ?_) (fun c91 => ?_)
            · -- t
              refine y_iconst (v := 0) C dX9_isEvent_98 (by decide) ?_
              exact y_zret C rfl dX9_isEvent_99 (by first | exact Or.inl rfl | exact Or.inr rfl) (⟨by rw [if_neg hw]; simp only [mEvtI]; rw [if_pos w29_0]; (try simp only [mWithI_ne, mWithI_eq0, mRoomI_ne, mRoomI_eq0, mPlacI_ne, mPlacI_eq0, mSensI_ne, mSensI_eq0] at *); first | (rw [if_pos (by simp_all)]; done) | (rw [if_neg (fun q => by first | exact absurd q.1 (by assumption) | exact absurd q.2 (by assumption) | exact absurd q.2.1 (by assumption) | exact absurd q.2.2 (by assumption) | exact q.2.2 (by assumption))]; done), rfl, rfl⟩)
            · -- f
              refine y_iconst (v := 1) C dX9_isEvent_94 (by decide) ?_
              refine y_goto (t := 99) C dX9_isEvent_95 (by decide) ?_
              exact y_zret C rfl dX9_isEvent_99 (by first | exact Or.inl rfl | exact Or.inr rfl) (⟨by rw [if_neg hw]; simp only [mEvtI]; rw [if_pos w29_0]; (try simp only [mWithI_ne, mWithI_eq0, mRoomI_ne, mRoomI_eq0, mPlacI_ne, mPlacI_eq0, mSensI_ne, mSensI_eq0] at *); first | (rw [if_pos (by simp_all)]; done) | (rw [if_neg (fun q => by first | exact absurd q.1 (by assumption) | exact absurd q.2 (by assumption) | exact absurd q.2.1 (by assumption) | exact absurd q.2.2 (by assumption) | exact q.2.2 (by assumption))]; done), rfl, rfl⟩)
      by_cases w29_1 : kd = 1
      ·
        refine y_tableIn (t := 100) C dX9_isEvent_29 (by rw [w29_1]; decide) (by rw [w29_1]; decide) (by first | (rw [w29_1]; done) | (rw [w29_1]; rfl)) (by decide) ?_
        refine y_iload_n C dX9_isEvent_100 rfl ?_
        refine y_iconst (v := 1) C dX9_isEvent_101 (by decide) ?_
        refine y_sipush (v := 200) C dX9_isEvent_102 (by decide) ?_
        refine y_callSi C (e_X9_within _ _ _ _ _) dX9_isEvent_105 rfl gX9_isEvent_X9_within rfl qX9_within ⟨rfl, rfl⟩ ⟨Nat.le_of_ble_eq_true rfl, Nat.le_of_ble_eq_true rfl⟩ rfl (Nat.le_of_ble_eq_true rfl) ⟨Nat.zero_le _, Nat.zero_le _⟩ (fun v1 σ1 τ1 hq => ?_)
        obtain ⟨rfl, rfl, rfl⟩ := hq
        refine y_if_eq (t := 120) C dX9_isEvent_108 (by decide) (fun c108 => ?_) (fun c108 => ?_)
        · -- t
          refine y_iconst (v := 0) C dX9_isEvent_120 (by decide) ?_
          exact y_zret C rfl dX9_isEvent_121 (by first | exact Or.inl rfl | exact Or.inr rfl) (⟨by rw [if_neg hw]; simp only [mEvtI]; rw [if_neg w29_0, if_pos w29_1]; (try simp only [mWithI_ne, mWithI_eq0, mRoomI_ne, mRoomI_eq0, mPlacI_ne, mPlacI_eq0, mSensI_ne, mSensI_eq0] at *); first | (rw [if_pos (by simp_all)]; done) | (rw [if_neg (fun q => by first | exact absurd q.1 (by assumption) | exact absurd q.2 (by assumption) | exact absurd q.2.1 (by assumption) | exact absurd q.2.2 (by assumption) | exact q.2.2 (by assumption))]; done), rfl, rfl⟩)
        · -- f
          refine y_iload C dX9_isEvent_111 rfl ?_
          refine y_if_ne (t := 120) C dX9_isEvent_113 (by decide) (fun c113 => ?_) (fun c113 => ?_)
          · -- t
            refine y_iconst (v := 0) C dX9_isEvent_120 (by decide) ?_
            exact y_zret C rfl dX9_isEvent_121 (by first | exact Or.inl rfl | exact Or.inr rfl) (⟨by rw [if_neg hw]; simp only [mEvtI]; rw [if_neg w29_0, if_pos w29_1]; (try simp only [mWithI_ne, mWithI_eq0, mRoomI_ne, mRoomI_eq0, mPlacI_ne, mPlacI_eq0, mSensI_ne, mSensI_eq0] at *); first | (rw [if_pos (by simp_all)]; done) | (rw [if_neg (fun q => by first | exact absurd q.1 (by assumption) | exact absurd q.2 (by assumption) | exact absurd q.2.1 (by assumption) | exact absurd q.2.2 (by assumption) | exact q.2.2 (by assumption))]; done), rfl, rfl⟩)
          · -- f
            refine y_iconst (v := 1) C dX9_isEvent_116 (by decide) ?_
            refine y_goto (t := 121) C dX9_isEvent_117 (by decide) ?_
            exact y_zret C rfl dX9_isEvent_121 (by first | exact Or.inl rfl | exact Or.inr rfl) (⟨by rw [if_neg hw]; simp only [mEvtI]; rw [if_neg w29_0, if_pos w29_1]; (try simp only [mWithI_ne, mWithI_eq0, mRoomI_ne, mRoomI_eq0, mPlacI_ne, mPlacI_eq0, mSensI_ne, mSensI_eq0] at *); first | (rw [if_pos (by simp_all)]; done) | (rw [if_neg (fun q => by first | exact absurd q.1 (by assumption) | exact absurd q.2 (by assumption) | exact absurd q.2.1 (by assumption) | exact absurd q.2.2 (by assumption) | exact q.2.2 (by assumption))]; done), rfl, rfl⟩)
      by_cases w29_2 : kd = 2
      ·
        refine y_tableIn (t := 122) C dX9_isEvent_29 (by rw [w29_2]; decide) (by rw [w29_2]; decide) (by first | (rw [w29_2]; done) | (rw [w29_2]; rfl)) (by decide) ?_
        refine y_iload_n C dX9_isEvent_122 rfl ?_
        refine y_iconst (v := 0) C dX9_isEvent_123 (by decide) ?_
        refine y_bipush (v := 60) C dX9_isEvent_124 (by decide) ?_
        refine y_callSi C (e_X9_within _ _ _ _ _) dX9_isEvent_126 rfl gX9_isEvent_X9_within rfl qX9_within ⟨rfl, rfl⟩ ⟨Nat.le_of_ble_eq_true rfl, Nat.le_of_ble_eq_true rfl⟩ rfl (Nat.le_of_ble_eq_true rfl) ⟨Nat.zero_le _, Nat.zero_le _⟩ (fun v1 σ1 τ1 hq => ?_)
        obtain ⟨rfl, rfl, rfl⟩ := hq
        refine y_if_eq (t := 141) C dX9_isEvent_129 (by decide) (fun c129 => ?_) (fun c129 => ?_)
        · -- t
          refine y_iconst (v := 0) C dX9_isEvent_141 (by decide) ?_
          exact y_zret C rfl dX9_isEvent_142 (by first | exact Or.inl rfl | exact Or.inr rfl) (⟨by rw [if_neg hw]; simp only [mEvtI]; rw [if_neg w29_0, if_neg w29_1, if_pos w29_2]; (try simp only [mWithI_ne, mWithI_eq0, mRoomI_ne, mRoomI_eq0, mPlacI_ne, mPlacI_eq0, mSensI_ne, mSensI_eq0] at *); first | (rw [if_pos (by simp_all)]; done) | (rw [if_neg (fun q => by first | exact absurd q.1 (by assumption) | exact absurd q.2 (by assumption) | exact absurd q.2.1 (by assumption) | exact absurd q.2.2 (by assumption) | exact q.2.2 (by assumption))]; done), rfl, rfl⟩)
        · -- f
          refine y_iload C dX9_isEvent_132 rfl ?_
          refine y_if_ne (t := 141) C dX9_isEvent_134 (by decide) (fun c134 => ?_) (fun c134 => ?_)
          · -- t
            refine y_iconst (v := 0) C dX9_isEvent_141 (by decide) ?_
            exact y_zret C rfl dX9_isEvent_142 (by first | exact Or.inl rfl | exact Or.inr rfl) (⟨by rw [if_neg hw]; simp only [mEvtI]; rw [if_neg w29_0, if_neg w29_1, if_pos w29_2]; (try simp only [mWithI_ne, mWithI_eq0, mRoomI_ne, mRoomI_eq0, mPlacI_ne, mPlacI_eq0, mSensI_ne, mSensI_eq0] at *); first | (rw [if_pos (by simp_all)]; done) | (rw [if_neg (fun q => by first | exact absurd q.1 (by assumption) | exact absurd q.2 (by assumption) | exact absurd q.2.1 (by assumption) | exact absurd q.2.2 (by assumption) | exact q.2.2 (by assumption))]; done), rfl, rfl⟩)
          · -- f
            refine y_iconst (v := 1) C dX9_isEvent_137 (by decide) ?_
            refine y_goto (t := 142) C dX9_isEvent_138 (by decide) ?_
            exact y_zret C rfl dX9_isEvent_142 (by first | exact Or.inl rfl | exact Or.inr rfl) (⟨by rw [if_neg hw]; simp only [mEvtI]; rw [if_neg w29_0, if_neg w29_1, if_pos w29_2]; (try simp only [mWithI_ne, mWithI_eq0, mRoomI_ne, mRoomI_eq0, mPlacI_ne, mPlacI_eq0, mSensI_ne, mSensI_eq0] at *); first | (rw [if_pos (by simp_all)]; done) | (rw [if_neg (fun q => by first | exact absurd q.1 (by assumption) | exact absurd q.2 (by assumption) | exact absurd q.2.1 (by assumption) | exact absurd q.2.2 (by assumption) | exact q.2.2 (by assumption))]; done), rfl, rfl⟩)
      by_cases w29_3 : kd = 3
      ·
        refine y_tableIn (t := 143) C dX9_isEvent_29 (by rw [w29_3]; decide) (by rw [w29_3]; decide) (by first | (rw [w29_3]; done) | (rw [w29_3]; rfl)) (by decide) ?_
        refine y_aload_n C dX9_isEvent_143 rfl ?_
        refine y_iload_n C dX9_isEvent_144 rfl ?_
        refine y_callVi C (e_X9_isSensor _ _ hM I _) dX9_isEvent_145 rfl gX9_isEvent_X9_isSensor rfl (is_X9) ⟨rfl, qX9_isSensor⟩ ⟨rfl, rfl⟩ ⟨Nat.le_of_ble_eq_true rfl, Nat.le_of_ble_eq_true rfl⟩ rfl (Nat.le_of_ble_eq_true rfl) ⟨Nat.zero_le _, Nat.zero_le _⟩ (fun v1 σ1 τ1 hq => ?_)
        obtain ⟨rfl, rfl, rfl⟩ := hq
        refine y_if_eq (t := 165) C dX9_isEvent_148 (by decide) (fun c148 => ?_) (fun c148 => ?_)
        · -- t
          refine y_iconst (v := 0) C dX9_isEvent_165 (by decide) ?_
          exact y_zret C rfl dX9_isEvent_166 (by first | exact Or.inl rfl | exact Or.inr rfl) (⟨by rw [if_neg hw]; simp only [mEvtI]; rw [if_neg w29_0, if_neg w29_1, if_neg w29_2, if_pos w29_3]; (try simp only [mWithI_ne, mWithI_eq0, mRoomI_ne, mRoomI_eq0, mPlacI_ne, mPlacI_eq0, mSensI_ne, mSensI_eq0] at *); first | (rw [if_pos (by simp_all)]; done) | (rw [if_neg (fun q => by first | exact absurd q.1 (by assumption) | exact absurd q.2 (by assumption) | exact absurd q.2.1 (by assumption) | exact absurd q.2.2 (by assumption) | exact q.2.2 (by assumption))]; done), rfl, rfl⟩)
        · -- f
          refine y_iload C dX9_isEvent_151 rfl ?_
          refine y_iconst (v := 0) C dX9_isEvent_153 (by decide) ?_
          refine y_iconst (v := 2) C dX9_isEvent_154 (by decide) ?_
          refine y_callSi C (e_X9_within _ _ _ _ _) dX9_isEvent_155 rfl gX9_isEvent_X9_within rfl qX9_within ⟨rfl, rfl⟩ ⟨Nat.le_of_ble_eq_true rfl, Nat.le_of_ble_eq_true rfl⟩ rfl (Nat.le_of_ble_eq_true rfl) ⟨Nat.zero_le _, Nat.zero_le _⟩ (fun v1 σ1 τ1 hq => ?_)
          obtain ⟨rfl, rfl, rfl⟩ := hq
          refine y_if_eq (t := 165) C dX9_isEvent_158 (by decide) (fun c158 => ?_) (fun c158 => ?_)
          · -- t
            refine y_iconst (v := 0) C dX9_isEvent_165 (by decide) ?_
            exact y_zret C rfl dX9_isEvent_166 (by first | exact Or.inl rfl | exact Or.inr rfl) (⟨by rw [if_neg hw]; simp only [mEvtI]; rw [if_neg w29_0, if_neg w29_1, if_neg w29_2, if_pos w29_3]; (try simp only [mWithI_ne, mWithI_eq0, mRoomI_ne, mRoomI_eq0, mPlacI_ne, mPlacI_eq0, mSensI_ne, mSensI_eq0] at *); first | (rw [if_pos (by simp_all)]; done) | (rw [if_neg (fun q => by first | exact absurd q.1 (by assumption) | exact absurd q.2 (by assumption) | exact absurd q.2.1 (by assumption) | exact absurd q.2.2 (by assumption) | exact q.2.2 (by assumption))]; done), rfl, rfl⟩)
          · -- f
            refine y_iconst (v := 1) C dX9_isEvent_161 (by decide) ?_
            refine y_goto (t := 166) C dX9_isEvent_162 (by decide) ?_
            exact y_zret C rfl dX9_isEvent_166 (by first | exact Or.inl rfl | exact Or.inr rfl) (⟨by rw [if_neg hw]; simp only [mEvtI]; rw [if_neg w29_0, if_neg w29_1, if_neg w29_2, if_pos w29_3]; (try simp only [mWithI_ne, mWithI_eq0, mRoomI_ne, mRoomI_eq0, mPlacI_ne, mPlacI_eq0, mSensI_ne, mSensI_eq0] at *); first | (rw [if_pos (by simp_all)]; done) | (rw [if_neg (fun q => by first | exact absurd q.1 (by assumption) | exact absurd q.2 (by assumption) | exact absurd q.2.1 (by assumption) | exact absurd q.2.2 (by assumption) | exact q.2.2 (by assumption))]; done), rfl, rfl⟩)
      by_cases w29_4 : kd = 4
      ·
        refine y_tableIn (t := 167) C dX9_isEvent_29 (by rw [w29_4]; decide) (by rw [w29_4]; decide) (by first | (rw [w29_4]; done) | (rw [w29_4]; rfl)) (by decide) ?_
        refine y_iload_n C dX9_isEvent_167 rfl ?_
        refine y_if_ne (t := 180) C dX9_isEvent_168 (by decide) (fun c168 => ?_) (fun c168 => ?_)
        · -- t
          refine y_iconst (v := 0) C dX9_isEvent_180 (by decide) ?_
          exact y_zret C rfl dX9_isEvent_181 (by first | exact Or.inl rfl | exact Or.inr rfl) (⟨by rw [if_neg hw]; simp only [mEvtI]; rw [if_neg w29_0, if_neg w29_1, if_neg w29_2, if_neg w29_3, if_pos w29_4]; (try simp only [mWithI_ne, mWithI_eq0, mRoomI_ne, mRoomI_eq0, mPlacI_ne, mPlacI_eq0, mSensI_ne, mSensI_eq0] at *); first | (rw [if_pos (by simp_all)]; done) | (rw [if_neg (fun q => by first | exact absurd q.1 (by assumption) | exact absurd q.2 (by assumption) | exact absurd q.2.1 (by assumption) | exact absurd q.2.2 (by assumption) | exact q.2.2 (by assumption))]; done), rfl, rfl⟩)
        · -- f
          refine y_iload C dX9_isEvent_171 rfl ?_
          refine y_if_ne (t := 180) C dX9_isEvent_173 (by decide) (fun c173 => ?_) (fun c173 => ?_)
          · -- t
            refine y_iconst (v := 0) C dX9_isEvent_180 (by decide) ?_
            exact y_zret C rfl dX9_isEvent_181 (by first | exact Or.inl rfl | exact Or.inr rfl) (⟨by rw [if_neg hw]; simp only [mEvtI]; rw [if_neg w29_0, if_neg w29_1, if_neg w29_2, if_neg w29_3, if_pos w29_4]; (try simp only [mWithI_ne, mWithI_eq0, mRoomI_ne, mRoomI_eq0, mPlacI_ne, mPlacI_eq0, mSensI_ne, mSensI_eq0] at *); first | (rw [if_pos (by simp_all)]; done) | (rw [if_neg (fun q => by first | exact absurd q.1 (by assumption) | exact absurd q.2 (by assumption) | exact absurd q.2.1 (by assumption) | exact absurd q.2.2 (by assumption) | exact q.2.2 (by assumption))]; done), rfl, rfl⟩)
          · -- f
            refine y_iconst (v := 1) C dX9_isEvent_176 (by decide) ?_
            refine y_goto (t := 181) C dX9_isEvent_177 (by decide) ?_
            exact y_zret C rfl dX9_isEvent_181 (by first | exact Or.inl rfl | exact Or.inr rfl) (⟨by rw [if_neg hw]; simp only [mEvtI]; rw [if_neg w29_0, if_neg w29_1, if_neg w29_2, if_neg w29_3, if_pos w29_4]; (try simp only [mWithI_ne, mWithI_eq0, mRoomI_ne, mRoomI_eq0, mPlacI_ne, mPlacI_eq0, mSensI_ne, mSensI_eq0] at *); first | (rw [if_pos (by simp_all)]; done) | (rw [if_neg (fun q => by first | exact absurd q.1 (by assumption) | exact absurd q.2 (by assumption) | exact absurd q.2.1 (by assumption) | exact absurd q.2.2 (by assumption) | exact q.2.2 (by assumption))]; done), rfl, rfl⟩)
      refine y_tableOut (t := 182) C dX9_isEvent_29 (by have q0 : ¬ (kd).toInt = 0 := lv_neT w29_0 (by decide); have q1 : ¬ (kd).toInt = 1 := lv_neT w29_1 (by decide); have q2 : ¬ (kd).toInt = 2 := lv_neT w29_2 (by decide); have q3 : ¬ (kd).toInt = 3 := lv_neT w29_3 (by decide); have q4 : ¬ (kd).toInt = 4 := lv_neT w29_4 (by decide); omega) (by decide) ?_
      refine y_iconst (v := 0) C dX9_isEvent_182 (by decide) ?_
      exact y_zret C rfl dX9_isEvent_183 (by first | exact Or.inl rfl | exact Or.inr rfl) (⟨by rw [if_neg hw]; simp only [mEvtI]; rw [if_neg w29_0, if_neg w29_1, if_neg w29_2, if_neg w29_3, if_neg w29_4], rfl, rfl⟩)
    · -- f
      refine y_iconst (v := 0) C dX9_isEvent_26 (by decide) ?_
      exact y_zret C rfl dX9_isEvent_27 (by first | exact Or.inl rfl | exact Or.inr rfl) (⟨by rw [if_pos (hwn.mpr (by first | exact Or.inl kc8 | exact Or.inr kc23))], rfl, rfl⟩)
