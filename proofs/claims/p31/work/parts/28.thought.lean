set_option maxHeartbeats 4000000 in
set_option maxRecDepth 100000 in
theorem l_X8_firstAlarm {x : xC} (C : Cx x mX8_firstAlarm) (σ : xS) (τ : xT) {R ns nr : Nat} (hR4 : R ≤ 4) (i lim : Nat) (hi : i < R) (hl : lim ≤ 1000000) (fin : Int32) {Z : State → Prop} (kx : ∀ (a : Int32) (pc9 : Nat) (v3 : Option Value) (σ1 : xS), (pc9 = 30 ∨ pc9 = 38) → a = fin → Fr (wS 28) σ σ1 → Y x pc9 [some (.ref 0), some (.int (nI i)), some (.int (nI lim)), v3] [.int a] σ1 τ 0 0 Z) : ∀ n k : Nat, k + n = lim → ∀ (q : Rw) (e t1 : Nat), Inv q R ns nr e t1 (t1 + 1) → Sk q → t1 + n ≤ 1000000 → mFaF i q k n = fin → ∀ σ1 : xS, Rel σ1 28 q → Fr (wS 28) σ σ1 → Y x 2 [some (.ref 0), some (.int (nI i)), some (.int (nI lim)), some (.int (nI (k + 1)))] [] σ1 τ 0 0 Z := by
  intro n
  induction n with
  | zero =>
    intro k hk
    intro q e t1 Iq hsq ht1 hf σ1 hR1 hF1
    simp only [mFaF] at hf
    have hB : isW 28 := Or.inr (Or.inl rfl)
    refine y_iload_n C dX8_firstAlarm_2 rfl ?_
    refine y_iload_n C dX8_firstAlarm_3 rfl ?_
    refine y_icmp_gt (t := 37) C dX8_firstAlarm_4 (by decide) (fun c4 => ?_) (fun c4 => absurd (nI_lt (by omega) (by omega)) c4)
    refine y_iconst (v := -1) C dX8_firstAlarm_37 (by decide) ?_
    exact kx _ 38 _ σ1 (Or.inr rfl) hf hF1
  | succ n ih =>
    intro k hk
    intro q e t1 Iq hsq ht1 hf σ1 hR1 hF1
    have hB : isW 28 := Or.inr (Or.inl rfl)
    refine y_iload_n C dX8_firstAlarm_2 rfl ?_
    refine y_iload_n C dX8_firstAlarm_3 rfl ?_
    refine y_icmp_gt (t := 37) C dX8_firstAlarm_4 (by decide) (fun c4 => absurd c4 (nI_nlt (by omega) (by omega))) (fun c4 => ?_)
    refine y_aload_n C dX8_firstAlarm_7 rfl ?_
    refine g_X8_thought C dX8_firstAlarm_8 (by decide +kernel) (by decide +kernel) ?_
    refine y_callVi C (e_X7_letMinutePass hB _ _ hR1 Iq hsq (by omega)) dX8_firstAlarm_11 rfl gX8_firstAlarm_X7_letMinutePass rfl (is_X7 hB) ⟨rfl, qX7_letMinutePass⟩ ⟨rfl, rfl⟩ ⟨Nat.le_of_ble_eq_true rfl, Nat.le_of_ble_eq_true rfl⟩ rfl (Nat.le_of_ble_eq_true rfl) ⟨Nat.zero_le _, Nat.zero_le _⟩ (fun v2 σ2 τ2 hq => ?_)
    obtain ⟨rfl, hR2, hF2, rfl⟩ := hq
    refine y_pop C dX8_firstAlarm_14 rfl ?_
    refine y_aload_n C dX8_firstAlarm_15 rfl ?_
    refine g_X8_thought C dX8_firstAlarm_16 (by decide +kernel) (by decide +kernel) ?_
    refine g_X7_alarms C hB dX8_firstAlarm_19 (by decide +kernel) (by decide +kernel) ?_
    refine y_iload_n C dX8_firstAlarm_22 rfl ?_
    refine y_callVi C (e_X0_soundsIn hB _ _ hR2 i (by omega)) dX8_firstAlarm_23 rfl gX8_firstAlarm_X0_soundsIn rfl (is_X0 hB) ⟨rfl, qX0_soundsIn⟩ ⟨rfl, rfl⟩ ⟨Nat.le_of_ble_eq_true rfl, Nat.le_of_ble_eq_true rfl⟩ rfl (Nat.le_of_ble_eq_true rfl) ⟨Nat.zero_le _, Nat.zero_le _⟩ (fun v1 σ1 τ1 hq => ?_)
    obtain ⟨rfl, rfl, rfl⟩ := hq
    refine y_if_eq (t := 31) C dX8_firstAlarm_26 (by decide) (fun kc26 => ?_) (fun kc26 => ?_)
    · -- t
      refine y_iinc C dX8_firstAlarm_31 (L' := [_, _, _, _]) rfl (nI_1 (k + 1)) rfl ?_
      refine y_goto (t := 2) C dX8_firstAlarm_34 (by decide) ?_
      exact ih (k + 1) (by omega) (mMin q) (e - mDue (upd q 7 (q 7 + 1))) (t1 + 1) (Iq.min hsq (by omega)) (Sk.min Iq hsq (by omega)) (by omega) (by rw [← hf]; simp only [mFaF]; rw [if_neg (fun z => z kc26)]) σ2 hR2 (hF1.trans hF2)
    · -- f
      refine y_iload_n C dX8_firstAlarm_29 rfl ?_
      exact kx _ 30 _ σ2 (Or.inl rfl) (by rw [← hf]; simp only [mFaF]; rw [if_pos kc26]) (hF1.trans hF2)
set_option maxHeartbeats 4000000 in
set_option maxRecDepth 100000 in
theorem e_X8_firstAlarm {r : Rw} (σ : xS) (τ : xT) (hR : Rel σ 28 r) {R ns nr ne t : Nat} (I : Inv r R ns nr ne t (t + 1)) (hs : Sk r) (i lim : Nat) (hi : i < R) (ht : t + lim ≤ 1000000) : Xi mX8_firstAlarm [.ref 0, .int (nI i), .int (nI lim)] σ τ (fun v σ1 τ1 => v = mFaF i r 0 lim ∧ Fr (wS 28) σ σ1 ∧ τ = τ1) := by
  have hR4 := I.1.1.2.2
  refine Xi_mk (L := [some (.ref 0), some (.int (nI i)), some (.int (nI lim)), none]) (by decide) rfl (Nat.le_of_ble_eq_true rfl) rfl (fun x C => ?_)
  refine y_iconst (v := 1) C dX8_firstAlarm_0 (by decide) ?_
  refine y_istore_n C dX8_firstAlarm_1 (L' := [_, _, _, _]) (Nat.lt_of_lt_of_le (by decide : (3 : Nat) < 4) (Nat.le_refl _)) rfl ?_
  exact l_X8_firstAlarm C σ τ hR4 i lim hi (by omega) (mFaF i r 0 lim) (fun a pc9 v3 σ1 h9 ha hF => by
    rcases h9 with rfl | rfl
    · exact y_iret C rfl dX8_firstAlarm_30 ⟨ha, hF, rfl⟩
    · exact y_iret C rfl dX8_firstAlarm_38 ⟨ha, hF, rfl⟩) lim 0 (Nat.zero_add _) r ne t I hs ht rfl σ hR Fr.rf
set_option maxHeartbeats 4000000 in
set_option maxRecDepth 100000 in
theorem l_X8_greatestSmoke {x : xC} (C : Cx x mX8_greatestSmoke) (σ : xS) (τ : xT) {R ns nr : Nat} (hR4 : R ≤ 4) (i nn : Nat) (hi : i < R) (hl : nn ≤ 1000000) (o fin : Int32) {Z : State → Prop} (kx : ∀ (σ1 : xS), Fr (wS 28) σ σ1 → Y x 88 [some (.ref 0), some (.int (nI i)), some (.int o), some (.int (nI nn)), some (.int fin), some (.int (nI nn))] [] σ1 τ 0 0 Z) : ∀ n k : Nat, k + n = nn → ∀ (q : Rw) (e t1 : Nat) (m : Int32), Inv q R ns nr e t1 (t1 + 1) → Sk q → t1 + n ≤ 1000000 → mPkF i q n m = fin → ∀ σ1 : xS, Rel σ1 28 q → Fr (wS 28) σ σ1 → Y x 49 [some (.ref 0), some (.int (nI i)), some (.int o), some (.int (nI nn)), some (.int m), some (.int (nI k))] [] σ1 τ 0 0 Z := by
  intro n
  induction n with
  | zero =>
    intro k hk
    intro q e t1 m Iq hsq ht1 hf σ1 hR1 hF1
    have hB : isW 28 := Or.inr (Or.inl rfl)
    refine y_iload C dX8_greatestSmoke_49 rfl ?_
    refine y_iload_n C dX8_greatestSmoke_51 rfl ?_
    refine y_icmp_ge (t := 88) C dX8_greatestSmoke_52 (by decide) (fun c52 => ?_) (fun c52 => absurd (by rw [show k = nn by omega]; exact Int32.le_refl _) c52)
    obtain rfl : k = nn := by omega
    simp only [mPkF] at hf
    rw [hf]
    exact kx σ1 hF1
  | succ n ih =>
    intro k hk
    intro q e t1 m Iq hsq ht1 hf σ1 hR1 hF1
    have hB : isW 28 := Or.inr (Or.inl rfl)
    refine y_iload C dX8_greatestSmoke_49 rfl ?_
    refine y_iload_n C dX8_greatestSmoke_51 rfl ?_
    refine y_icmp_ge (t := 88) C dX8_greatestSmoke_52 (by decide) (fun c52 => absurd c52 (nI_ge (by omega) (by omega))) (fun c52 => ?_)
    refine y_aload_n C dX8_greatestSmoke_55 rfl ?_
    refine g_X8_thought C dX8_greatestSmoke_56 (by decide +kernel) (by decide +kernel) ?_
    refine y_callVi C (e_X7_letMinutePass hB _ _ hR1 Iq hsq (by omega)) dX8_greatestSmoke_59 rfl gX8_greatestSmoke_X7_letMinutePass rfl (is_X7 hB) ⟨rfl, qX7_letMinutePass⟩ ⟨rfl, rfl⟩ ⟨Nat.le_of_ble_eq_true rfl, Nat.le_of_ble_eq_true rfl⟩ rfl (Nat.le_of_ble_eq_true rfl) ⟨Nat.zero_le _, Nat.zero_le _⟩ (fun v2 σ2 τ2 hq => ?_)
    obtain ⟨rfl, hR2, hF2, rfl⟩ := hq
    refine y_pop C dX8_greatestSmoke_62 rfl ?_
    refine y_iload C dX8_greatestSmoke_63 rfl ?_
    refine y_aload_n C dX8_greatestSmoke_65 rfl ?_
    refine g_X8_thought C dX8_greatestSmoke_66 (by decide +kernel) (by decide +kernel) ?_
    refine g_X7_house C hB dX8_greatestSmoke_69 (by decide +kernel) (by decide +kernel) ?_
    refine g_X3_smoke C hB dX8_greatestSmoke_72 (by decide +kernel) (by decide +kernel) ?_
    refine y_iload_n C dX8_greatestSmoke_75 rfl ?_
    refine aR C hB hR2 (20 + i) 2 i 4 (pl_lo20 _ (by omega)) (lv_l (by omega) (by omega)) (by decide) rfl (by decide) rfl (by omega) dX8_greatestSmoke_76 ?_
    refine y_mmax C dX8_greatestSmoke_77 (by decide +kernel) (by decide +kernel) (by decide +kernel) (by decide +kernel) rfl (Nat.le_of_ble_eq_true rfl) (Nat.le_of_ble_eq_true rfl) ⟨Nat.zero_le _, Nat.zero_le _⟩ ?_
    refine y_istore C dX8_greatestSmoke_80 (L' := [_, _, _, _, _, _]) (Nat.lt_of_lt_of_le (by decide : (4 : Nat) < 6) (Nat.le_refl _)) rfl ?_
    refine y_iinc C dX8_greatestSmoke_82 (L' := [_, _, _, _, _, _]) rfl (nI_1 k) rfl ?_
    refine y_goto (t := 49) C dX8_greatestSmoke_85 (by decide) ?_
    exact ih (k + 1) (by omega) (mMin q) (e - mDue (upd q 7 (q 7 + 1))) (t1 + 1) _ (Iq.min hsq (by omega)) (Sk.min Iq hsq (by omega)) (by omega) (by simp only [mPkF] at hf; exact hf) σ2 hR2 (hF1.trans hF2)
set_option maxHeartbeats 4000000 in
set_option maxRecDepth 100000 in
theorem e_X8_greatestSmoke {r : Rw} (σ : xS) (τ : xT) (hR : Rel σ 1 r) {R ns nr ne t : Nat} (I : Inv r R ns nr ne t (t + 1)) (hs : Sk r) (i nn : Nat) (hi : i < R) (ht : t + nn ≤ 1000000) (o : Int32) (ho : 0 ≤ o ∧ o ≤ 8) : Xi mX8_greatestSmoke [.ref 0, .int (nI i), .int o, .int (nI nn)] σ τ (fun v σ1 τ1 => v = mPk r i o nn ∧ Fr (wS 28) σ σ1 ∧ τ = τ1) := by
  have hR4 := I.1.1.2.2
  have hB : isW 28 := Or.inr (Or.inl rfl)
  refine Xi_mk (L := [some (.ref 0), some (.int (nI i)), some (.int o), some (.int (nI nn)), none, none]) (by decide) rfl (Nat.le_of_ble_eq_true rfl) rfl (fun x C => ?_)
  refine y_aload_n C dX8_greatestSmoke_0 rfl ?_
  refine g_X8_thought C dX8_greatestSmoke_1 (by decide +kernel) (by decide +kernel) ?_
  refine y_aload_n C dX8_greatestSmoke_4 rfl ?_
  refine g_X8_now C dX8_greatestSmoke_5 (by decide +kernel) (by decide +kernel) ?_
  refine y_callVv C (e_copy hB (Or.inl rfl) (Or.inr (by decide)) _ _ hR I.2.2.2.2.2.1.2.2.1) dX8_greatestSmoke_8 rfl gX8_greatestSmoke_X7_copyFrom rfl (is_X7 hB) ⟨rfl, qX7_copyFrom⟩ ⟨rfl, rfl⟩ ⟨Nat.le_of_ble_eq_true rfl, Nat.le_of_ble_eq_true rfl⟩ rfl (Nat.le_of_ble_eq_true rfl) ⟨Nat.zero_le _, Nat.zero_le _⟩ (fun σ1 τ1 hq => ?_)
  obtain ⟨hR1, hF1, rfl⟩ := hq
  refine y_aload_n C dX8_greatestSmoke_11 rfl ?_
  refine g_X8_thought C dX8_greatestSmoke_12 (by decide +kernel) (by decide +kernel) ?_
  refine g_X7_rules C hB dX8_greatestSmoke_15 (by decide +kernel) (by decide +kernel) ?_
  refine y_callVv C (e_X5_clearR hB _ _ hR1) dX8_greatestSmoke_18 rfl gX8_greatestSmoke_X5_clear rfl (is_X5 hB) ⟨rfl, qX5_clear⟩ ⟨rfl, rfl⟩ ⟨Nat.le_of_ble_eq_true rfl, Nat.le_of_ble_eq_true rfl⟩ rfl (Nat.le_of_ble_eq_true rfl) ⟨Nat.zero_le _, Nat.zero_le _⟩ (fun σ2 τ2 hq => ?_)
  obtain ⟨hR2, hF2, rfl⟩ := hq
  refine y_aload_n C dX8_greatestSmoke_21 rfl ?_
  refine g_X8_thought C dX8_greatestSmoke_22 (by decide +kernel) (by decide +kernel) ?_
  refine g_X7_hearth C hB dX8_greatestSmoke_25 (by decide +kernel) (by decide +kernel) ?_
  refine y_iload_n C dX8_greatestSmoke_28 rfl ?_
  refine pR_X2_opening C hB hR2 dX8_greatestSmoke_29 (by decide +kernel) (by decide +kernel) (fun σ3 hR3 hF3 => ?_)
  refine y_aload_n C dX8_greatestSmoke_32 rfl ?_
  refine g_X8_thought C dX8_greatestSmoke_33 (by decide +kernel) (by decide +kernel) ?_
  refine g_X7_hearth C hB dX8_greatestSmoke_36 (by decide +kernel) (by decide +kernel) ?_
  refine y_iload_n C dX8_greatestSmoke_39 rfl ?_
  refine pR_X2_target C hB hR3 dX8_greatestSmoke_40 (by decide +kernel) (by decide +kernel) (fun σ4 hR4w hF4 => ?_)
  refine y_iconst (v := 0) C dX8_greatestSmoke_43 (by decide) ?_
  refine y_istore C dX8_greatestSmoke_44 (L' := [_, _, _, _, _, _]) (Nat.lt_of_lt_of_le (by decide : (4 : Nat) < 6) (Nat.le_refl _)) rfl ?_
  refine y_iconst (v := 0) C dX8_greatestSmoke_46 (by decide) ?_
  refine y_istore C dX8_greatestSmoke_47 (L' := [_, _, _, _, _, _]) (Nat.lt_of_lt_of_le (by decide : (5 : Nat) < 6) (Nat.le_refl _)) rfl ?_
  refine l_X8_greatestSmoke C _ _ hR4 i nn hi (by omega) o (mPk r i o nn) (fun σ5 hF5 => ?_) nn 0 (Nat.zero_add _) (mPk0 r o) ne t 0 (I.pk0 ho) (Sk.pk0 hs o) ht rfl σ4 hR4w Fr.rf
  refine y_iload C dX8_greatestSmoke_88 rfl ?_
  exact y_iret C rfl dX8_greatestSmoke_90 (⟨rfl, (((hF1.trans hF2).trans hF3).trans hF4).trans hF5, rfl⟩)
theorem Inv.dead {r : Rw} {R ns nr ne t tl : Nat} (I : Inv r R ns nr ne t tl) {d : Nat} (hd : d < ns) (v : Int32) : Inv (upd r (57 + 7 * d + 5) v) R ns nr ne t tl := by
  have h8 := I.1.2.1.2
  exact I.set1 (57 + 7 * d + 5) v (Or.inr ⟨by omega, by omega, by omega⟩) (by omega) (by omega) (by omega) (by omega) (by omega) (by omega) (by omega) (by omega) (by omega) (by omega)
theorem Sk.dead {r : Rw} (h : Sk r) (d : Nat) (v : Int32) : Sk (upd r (57 + 7 * d + 5) v) := by
  intro i hi
  rw [upd_ne (by omega)]
  exact h i hi
theorem evt_win {t : Nat} (ht : t ≤ 1000000) (m : Int32) : mWithI m (nI t + 1) (nI t + 999) = 0 ↔ (m ≤ nI t ∨ ¬ m ≤ nI t + 999) := by
  have e1 : (nI t + 1).toInt = (t : Int) + 1 := by rw [nI_1, nI_toInt (by omega)]; omega
  have e2 : (nI t + 999).toInt = (t : Int) + 999 := by rw [show (999 : Int32) = nI 999 from rfl, nI_add, nI_toInt (by omega)]; omega
  rw [mWithI_eq0, Int32.le_iff_toInt_le, Int32.le_iff_toInt_le, Int32.le_iff_toInt_le, e1, e2, nI_toInt (by omega)]
  omega
