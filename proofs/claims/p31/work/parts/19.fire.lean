theorem upd_self (f : Nat → Int32) (k : Nat) : upd f k (f k) = f := by
  funext j
  by_cases e : j = k
  · subst e; simp [upd]
  · simp [upd, e]
theorem upd_upd (f : Nat → Int32) (k : Nat) (a b : Int32) : upd (upd f k a) k b = upd f k b := by
  funext j
  by_cases e : j = k <;> simp [upd, e]
theorem i_sub3 (a b c : Int32) : a - (b + c) = a - b - c := (Int32.sub_sub a b c).symm
theorem i_asub (a b c : Int32) : a + b - c = a + (b - c) := by rw [Int32.sub_eq_add_neg, Int32.sub_eq_add_neg, Int32.add_assoc]
theorem mLes_comm (a b : Int32) : mLes a b = mLes b a := by
  simp only [mLes, Int32.lt_iff_toInt_lt]
  by_cases h : a.toInt < b.toInt
  · rw [if_pos h, if_neg (by omega)]
  · by_cases h2 : b.toInt < a.toInt
    · rw [if_neg h, if_pos h2]
    · rw [if_neg h, if_neg h2]
      exact Int32.toInt_inj.mp (by omega)
theorem rng {x : Int32} {m : Nat} (hm : m < 2 ^ 31) (h0 : 0 ≤ x) (h1 : x ≤ nI m) : ∃ j, j ≤ m ∧ x = nI j := nI_of2 (nI_toInt hm) (Int32.not_lt.mpr h0) h1
theorem mStr_nI {r : Rw} (h0 : 0 ≤ r 8) (h1 : r 8 ≤ 200) : ∃ s, s ≤ 9 ∧ mStr r = nI s := by
  obtain ⟨f, hf, e⟩ := rng (m := 200) (by decide) h0 h1
  unfold mStr
  by_cases q : r 8 = 0
  · exact ⟨0, by decide, by rw [if_pos q]; rfl⟩
  · refine ⟨1 + f / 25, by omega, ?_⟩
    rw [if_neg q, e, show (25 : Int32) = nI 25 from rfl, pk_div (by omega) (by decide) (by decide), show (1 : Int32) = nI 1 from rfl, nI_add]
theorem mDra_nI {r : Rw} (h : ((0 ≤ r 0 ∧ r 0 ≤ 60) ∧ (0 ≤ r 4 ∧ r 4 ≤ 8) ∧ (0 ≤ r 5 ∧ r 5 ≤ 999))) : ∃ d, d ≤ 999 ∧ mDra r = nI d := by
  obtain ⟨v, hv, ev⟩ := rng (m := 60) (by decide) h.1.1 h.1.2
  obtain ⟨o, ho, eo⟩ := rng (m := 8) (by decide) h.2.1.1 h.2.1.2
  obtain ⟨w, hw, ew⟩ := rng (m := 999) (by decide) h.2.2.1 h.2.2.2
  have hwo : w * o ≤ 999 * 8 := Nat.mul_le_mul hw ho
  have e : r 5 * r 4 / 8 = nI (w * o / 8) := by
    rw [ew, eo, pk_mul, show (8 : Int32) = nI 8 from rfl, pk_div (by omega) (by decide) (by decide)]
  unfold mDra
  rw [e, ev]
  by_cases q : v ≤ w * o / 8
  · refine ⟨w * o / 8 - v, by omega, ?_⟩
    rw [pk_sub q, if_neg (nI_pos (by omega))]
  · refine ⟨0, by decide, ?_⟩
    rw [if_pos (pk_sneg (by omega) (by omega))]
    rfl
def mB1 (r : Rw) : Rw := upd (upd r 8 (if mStr r = 0 then r 8 else if r 8 - 1 - r 4 / 2 < 0 then 0 else r 8 - 1 - r 4 / 2)) 5 (mLes 999 (r 5 + 6 * mStr r - r 5 / 8))
def mB2 (r : Rw) (s : Int32) : Rw := upd (upd r 20 (r 20 + (40 * s - mLes (40 * s) (2 * mDra r)) - mLes (mDra r / 2) (r 20 + (40 * s - mLes (40 * s) (2 * mDra r))))) 16 (r 16 + (mLes (40 * s) (2 * mDra r) + mLes (mDra r / 2) (r 20 + (40 * s - mLes (40 * s) (2 * mDra r)))))
def mMv1 (r : Rw) : Rw := if r 3 = 0 ∧ ¬ r 4 = r 9 then upd r 4 (r 4 + (if r 4 < r 9 then 1 else -1)) else r
def mCM (r : Rw) (i : Nat) (e : Int32) : Rw := upd (upd r (28 + i) (r (28 + i) - (if 0 < r (28 + i) then 1 else 0))) (24 + i) (if e = 0 then (if 0 < r (24 + i) then r (24 + i) - 1 else 0) else r 2 + 1)
theorem max_1 {x : Int32} {m : Nat} (hm : m < 2 ^ 30) (e : x = nI m) : (if x - 1 < 0 then (0 : Int32) else x - 1) = (x - (if 0 < x then 1 else 0)) ∧ (if x - 1 < 0 then (0 : Int32) else x - 1) = (if 0 < x then x - 1 else 0) := by
  subst e
  cases m with
  | zero => exact ⟨by decide, by decide⟩
  | succ k =>
    have e1 : nI (k + 1) - 1 = nI k := nI_pred k
    have h0 : (0 : Int32) < nI (k + 1) := nI_lt (a := 0) (by omega) (by omega)
    rw [e1, if_neg (nI_pos (by omega)), if_pos h0, if_pos h0]
    exact ⟨e1.symm, rfl⟩
set_option maxHeartbeats 4000000 in
set_option maxRecDepth 100000 in
theorem e_X2_burn {B : Nat} (hB : isW B) {r : Rw} (σ : xS) (τ : xT) (hR : Rel σ B r) {R ns nr ne t tl : Nat} (I : Inv r R ns nr ne t tl) : Xv mX2_burn [.ref (B + 4), .int (mStr r)] σ τ (fun σ1 τ1 => Rel σ1 B (mB1 r) ∧ Fr (wS B) σ σ1 ∧ τ = τ1) := by
  have hg := I.2.2.2.2.2.1
  have hr4 := I.2.2.2.2.2.2.1
  obtain ⟨s, hs, es⟩ := mStr_nI hg.2.2.2.2.2.1.1 hg.2.2.2.2.2.1.2
  refine Xv_mk (L := [some (.ref (B + 4)), some (.int (mStr r))]) (by decide) rfl (Nat.le_of_ble_eq_true rfl) rfl (fun x C => ?_)
  refine y_iload_n C dX2_burn_0 rfl ?_
  refine y_if_le (t := 25) C dX2_burn_1 (by decide) (fun c1 => ?_) (fun c1 => ?_)
  · -- t
    have e0 : mStr r = 0 := by
      rw [es] at c1 ⊢
      have := (nI_leI (a := s) (b := 0) (by omega) (by decide)).mp c1
      obtain rfl : s = 0 := by omega
      rfl
    refine y_aload_n C dX2_burn_25 rfl ?_
    refine y_aload_n C dX2_burn_26 rfl ?_
    refine gR_X2_warmth C hB hR dX2_burn_27 (by decide +kernel) (by decide +kernel) ?_
    refine y_bipush (v := 6) C dX2_burn_30 (by decide) ?_
    refine y_iload_n C dX2_burn_32 rfl ?_
    refine y_imul C dX2_burn_33 ?_
    refine y_iadd C dX2_burn_34 ?_
    refine y_aload_n C dX2_burn_35 rfl ?_
    refine gR_X2_warmth C hB hR dX2_burn_36 (by decide +kernel) (by decide +kernel) ?_
    refine y_bipush (v := 8) C dX2_burn_39 (by decide) ?_
    refine y_idiv C dX2_burn_41 (by decide) ?_
    refine y_isub C dX2_burn_42 ?_
    refine y_sipush (v := 999) C dX2_burn_43 (by decide) ?_
    refine y_mmin C dX2_burn_46 (by decide +kernel) (by decide +kernel) (by decide +kernel) (by decide +kernel) rfl (Nat.le_of_ble_eq_true rfl) (Nat.le_of_ble_eq_true rfl) ⟨Nat.zero_le _, Nat.zero_le _⟩ ?_
    refine pR_X2_warmth C hB hR dX2_burn_49 (by decide +kernel) (by decide +kernel) (fun σ1 hR1 hF1 => ?_)
    exact y_vret C rfl dX2_burn_52 (⟨by
        first
          | (have e : mB1 r = upd r 5 (mLes 999 (r 5 + 6 * mStr r - r 5 / 8)) := by
               simp only [mB1]; rw [if_pos e0, upd_self]
             rw [e]; exact hR1; done)
          | (have e0 : ¬ mStr r = 0 := fun q => c1 (by rw [q]; exact Int32.le_refl _)
             have e : mB1 r = upd (upd r 8 (if r 8 - (1 + r 4 / 2) < 0 then 0 else r 8 - (1 + r 4 / 2))) 5 (mLes 999 (r 5 + 6 * mStr r - r 5 / 8)) := by
               simp only [mB1]; rw [if_neg e0, i_sub3]
             rw [e]; exact hR2), by first | exact hF1.trans hF2 | exact hF1, rfl⟩)
  · -- f
    refine y_aload_n C dX2_burn_4 rfl ?_
    refine y_aload_n C dX2_burn_5 rfl ?_
    refine gR_X2_fuel C hB hR dX2_burn_6 (by decide +kernel) (by decide +kernel) ?_
    refine y_iconst (v := 1) C dX2_burn_9 (by decide) ?_
    refine y_aload_n C dX2_burn_10 rfl ?_
    refine gR_X2_opening C hB hR dX2_burn_11 (by decide +kernel) (by decide +kernel) ?_
    refine y_iconst (v := 2) C dX2_burn_14 (by decide) ?_
    refine y_idiv C dX2_burn_15 (by decide) ?_
    refine y_iadd C dX2_burn_16 ?_
    refine y_isub C dX2_burn_17 ?_
    refine y_iconst (v := 0) C dX2_burn_18 (by decide) ?_
    refine y_mmax C dX2_burn_19 (by decide +kernel) (by decide +kernel) (by decide +kernel) (by decide +kernel) rfl (Nat.le_of_ble_eq_true rfl) (Nat.le_of_ble_eq_true rfl) ⟨Nat.zero_le _, Nat.zero_le _⟩ ?_
    refine pR_X2_fuel C hB hR dX2_burn_22 (by decide +kernel) (by decide +kernel) (fun σ1 hR1 hF1 => ?_)
    have hR := hR1
    refine y_aload_n C dX2_burn_25 rfl ?_
    refine y_aload_n C dX2_burn_26 rfl ?_
    refine gR_X2_warmth C hB hR dX2_burn_27 (by decide +kernel) (by decide +kernel) ?_
    refine y_bipush (v := 6) C dX2_burn_30 (by decide) ?_
    refine y_iload_n C dX2_burn_32 rfl ?_
    refine y_imul C dX2_burn_33 ?_
    refine y_iadd C dX2_burn_34 ?_
    refine y_aload_n C dX2_burn_35 rfl ?_
    refine gR_X2_warmth C hB hR dX2_burn_36 (by decide +kernel) (by decide +kernel) ?_
    refine y_bipush (v := 8) C dX2_burn_39 (by decide) ?_
    refine y_idiv C dX2_burn_41 (by decide) ?_
    refine y_isub C dX2_burn_42 ?_
    refine y_sipush (v := 999) C dX2_burn_43 (by decide) ?_
    refine y_mmin C dX2_burn_46 (by decide +kernel) (by decide +kernel) (by decide +kernel) (by decide +kernel) rfl (Nat.le_of_ble_eq_true rfl) (Nat.le_of_ble_eq_true rfl) ⟨Nat.zero_le _, Nat.zero_le _⟩ ?_
    refine pR_X2_warmth C hB hR dX2_burn_49 (by decide +kernel) (by decide +kernel) (fun σ2 hR2 hF2 => ?_)
    exact y_vret C rfl dX2_burn_52 (⟨by
        first
          | (have e : mB1 r = upd r 5 (mLes 999 (r 5 + 6 * mStr r - r 5 / 8)) := by
               simp only [mB1]; rw [if_pos e0, upd_self]
             rw [e]; exact hR1; done)
          | (have e0 : ¬ mStr r = 0 := fun q => c1 (by rw [q]; exact Int32.le_refl _)
             have e : mB1 r = upd (upd r 8 (if r 8 - (1 + r 4 / 2) < 0 then 0 else r 8 - (1 + r 4 / 2))) 5 (mLes 999 (r 5 + 6 * mStr r - r 5 / 8)) := by
               simp only [mB1]; rw [if_neg e0, i_sub3]
             rw [e]; exact hR2), by first | exact hF1.trans hF2 | exact hF1, rfl⟩)
set_option maxHeartbeats 4000000 in
set_option maxRecDepth 100000 in
theorem e_X2_moveDamper {B : Nat} (hB : isW B) {r : Rw} (σ : xS) (τ : xT) (hR : Rel σ B r) : Xi mX2_moveDamper [.ref (B + 4)] σ τ (fun v σ1 τ1 => v = (if r 3 = 0 ∧ ¬ r 4 = r 9 then 1 else 0) ∧ Rel σ1 B (mMv1 r) ∧ Fr (wS B) σ σ1 ∧ τ = τ1) := by
  refine Xi_mk (L := [some (.ref (B + 4))]) (by decide) rfl (Nat.le_of_ble_eq_true rfl) rfl (fun x C => ?_)
  refine y_aload_n C dX2_moveDamper_0 rfl ?_
  refine gR_X2_jammed C hB hR dX2_moveDamper_1 (by decide +kernel) (by decide +kernel) ?_
  refine y_if_ne (t := 18) C dX2_moveDamper_4 (by decide) (fun kc4 => ?_) (fun kc4 => ?_)
  · -- t
    have hnm : ¬ (r 3 = 0 ∧ ¬ r 4 = r 9) := fun q => kc4 q.1
    refine y_iconst (v := 0) C dX2_moveDamper_18 (by decide) ?_
    exact y_zret C rfl dX2_moveDamper_19 (by first | exact Or.inl rfl | exact Or.inr rfl) (⟨by rw [if_neg hnm], by unfold mMv1; rw [if_neg hnm]; exact hR, Fr.rf, rfl⟩)
  · -- f
    refine y_aload_n C dX2_moveDamper_7 rfl ?_
    refine gR_X2_opening C hB hR dX2_moveDamper_8 (by decide +kernel) (by decide +kernel) ?_
    refine y_aload_n C dX2_moveDamper_11 rfl ?_
    refine gR_X2_target C hB hR dX2_moveDamper_12 (by decide +kernel) (by decide +kernel) ?_
    refine y_icmp_ne (t := 20) C dX2_moveDamper_15 (by decide) (fun kc15 => ?_) (fun kc15 => ?_)
    · -- t
      refine y_aload_n C dX2_moveDamper_20 rfl ?_
      refine y_dup C dX2_moveDamper_21 rfl ?_
      refine gR_X2_opening C hB hR dX2_moveDamper_22 (by decide +kernel) (by decide +kernel) ?_
      refine y_aload_n C dX2_moveDamper_25 rfl ?_
      refine gR_X2_opening C hB hR dX2_moveDamper_26 (by decide +kernel) (by decide +kernel) ?_
      refine y_aload_n C dX2_moveDamper_29 rfl ?_
      refine gR_X2_target C hB hR dX2_moveDamper_30 (by decide +kernel) (by decide +kernel) ?_
      refine y_icmp_ge (t := 40) C dX2_moveDamper_33 (by decide) (fun kc33 => ?_) (fun kc33 => ?_)
      · -- t
        refine y_iconst (v := -1) C dX2_moveDamper_40 (by decide) ?_
        refine y_iadd C dX2_moveDamper_41 ?_
        refine pR_X2_opening C hB hR dX2_moveDamper_42 (by decide +kernel) (by decide +kernel) (fun σ1 hR1 hF1 => ?_)
        refine y_iconst (v := 1) C dX2_moveDamper_45 (by decide) ?_
        exact y_zret C rfl dX2_moveDamper_46 (by first | exact Or.inl rfl | exact Or.inr rfl) (⟨by rw [if_pos ⟨kc4, kc15⟩], by
            unfold mMv1
            rw [if_pos ⟨kc4, kc15⟩]
            first
              | (rw [if_neg (Int32.not_lt.mpr kc33)]; exact hR1)
              | (rw [if_pos (Int32.not_le.mp kc33)]; exact hR1), hF1, rfl⟩)
      · -- f
        refine y_iconst (v := 1) C dX2_moveDamper_36 (by decide) ?_
        refine y_goto (t := 41) C dX2_moveDamper_37 (by decide) ?_
        refine y_iadd C dX2_moveDamper_41 ?_
        refine pR_X2_opening C hB hR dX2_moveDamper_42 (by decide +kernel) (by decide +kernel) (fun σ1 hR1 hF1 => ?_)
        refine y_iconst (v := 1) C dX2_moveDamper_45 (by decide) ?_
        exact y_zret C rfl dX2_moveDamper_46 (by first | exact Or.inl rfl | exact Or.inr rfl) (⟨by rw [if_pos ⟨kc4, kc15⟩], by
            unfold mMv1
            rw [if_pos ⟨kc4, kc15⟩]
            first
              | (rw [if_neg (Int32.not_lt.mpr kc33)]; exact hR1)
              | (rw [if_pos (Int32.not_le.mp kc33)]; exact hR1), hF1, rfl⟩)
    · -- f
      have hnm : ¬ (r 3 = 0 ∧ ¬ r 4 = r 9) := fun q => q.2 kc15
      refine y_iconst (v := 0) C dX2_moveDamper_18 (by decide) ?_
      exact y_zret C rfl dX2_moveDamper_19 (by first | exact Or.inl rfl | exact Or.inr rfl) (⟨by rw [if_neg hnm], by unfold mMv1; rw [if_neg hnm]; exact hR, Fr.rf, rfl⟩)
set_option maxHeartbeats 4000000 in
set_option maxRecDepth 100000 in
theorem e_X6_countMinute {B : Nat} (hB : isW B) {r : Rw} (σ : xS) (τ : xT) (hR : Rel σ B r) {R ns nr ne t tl : Nat} (I : Inv r R ns nr ne t tl) (i : Nat) (hi : i < ns) (e : Int32) : Xv mX6_countMinute [.ref (B + 5), .int (nI i), .int e] σ τ (fun σ1 τ1 => Rel σ1 B (upd r (57 + 7 * i + 6) (if e = 0 then 0 else mLes 99 (r (57 + 7 * i + 6) + 1))) ∧ Fr (wS B) σ σ1 ∧ τ = τ1) := by
  have hR4 := I.1.1.2.2
  have hs8 := I.1.2.1.2
  have hr8 := I.1.2.2.1.2
  refine Xv_mk (L := [some (.ref (B + 5)), some (.int (nI i)), some (.int e)]) (by decide) rfl (Nat.le_of_ble_eq_true rfl) rfl (fun x C => ?_)
  refine y_aload_n C dX6_countMinute_0 rfl ?_
  refine g_X6_excitedFor C hB dX6_countMinute_1 (by decide +kernel) (by decide +kernel) ?_
  refine y_iload_n C dX6_countMinute_4 rfl ?_
  refine y_iload_n C dX6_countMinute_5 rfl ?_
  refine y_if_eq (t := 25) C dX6_countMinute_6 (by decide) (fun c6 => ?_) (fun c6 => ?_)
  · -- t
    refine y_iconst (v := 0) C dX6_countMinute_25 (by decide) ?_
    refine wR C hB hR (57 + 7 * i + 6) 12 i 8 (pl_s i (by omega) 6 (by decide)) (by omega) (by omega) (lv_upd (by omega) (by omega) (by omega)) (by decide) rfl (by decide) rfl (by omega) dX6_countMinute_26 (fun σ1 hR1 hF1 => ?_)
    exact y_vret C rfl dX6_countMinute_27 (⟨by first | (rw [if_pos c6]; exact hR1) | (rw [if_neg c6]; exact hR1), hF1, rfl⟩)
  · -- f
    refine y_aload_n C dX6_countMinute_9 rfl ?_
    refine g_X6_excitedFor C hB dX6_countMinute_10 (by decide +kernel) (by decide +kernel) ?_
    refine y_iload_n C dX6_countMinute_13 rfl ?_
    refine aR C hB hR (57 + 7 * i + 6) 12 i 8 (pl_s _ (by have := I.1.2.1.2; omega) _ (by decide)) (lv_s (by have := I.1.2.1.2; omega) (by decide) (inv_s I hi)) (by decide) rfl (by decide) rfl (by have := I.1.2.1.2; omega) dX6_countMinute_14 ?_
    refine y_iconst (v := 1) C dX6_countMinute_15 (by decide) ?_
    refine y_iadd C dX6_countMinute_16 ?_
    refine y_bipush (v := 99) C dX6_countMinute_17 (by decide) ?_
    refine y_mmin C dX6_countMinute_19 (by decide +kernel) (by decide +kernel) (by decide +kernel) (by decide +kernel) rfl (Nat.le_of_ble_eq_true rfl) (Nat.le_of_ble_eq_true rfl) ⟨Nat.zero_le _, Nat.zero_le _⟩ ?_
    refine y_goto (t := 26) C dX6_countMinute_22 (by decide) ?_
    refine wR C hB hR (57 + 7 * i + 6) 12 i 8 (pl_s i (by omega) 6 (by decide)) (by omega) (by omega) (lv_upd (by omega) (by omega) (by omega)) (by decide) rfl (by decide) rfl (by omega) dX6_countMinute_26 (fun σ1 hR1 hF1 => ?_)
    exact y_vret C rfl dX6_countMinute_27 (⟨by first | (rw [if_pos c6]; exact hR1) | (rw [if_neg c6]; exact hR1), hF1, rfl⟩)
set_option maxHeartbeats 4000000 in
set_option maxRecDepth 100000 in
theorem e_X0_countMinute {B : Nat} (hB : isW B) {r : Rw} (σ : xS) (τ : xT) (hR : Rel σ B r) {R ns nr ne t tl : Nat} (I : Inv r R ns nr ne t tl) (i : Nat) (hi : i < 4) (e : Int32) : Xv mX0_countMinute [.ref (B + 13), .int (nI i), .int e] σ τ (fun σ1 τ1 => Rel σ1 B (mCM r i e) ∧ Fr (wS B) σ σ1 ∧ τ = τ1) := by
  have hg := I.2.2.2.2.2.1
  have hr4 := I.2.2.2.2.2.2.1
  obtain ⟨m, hm, em⟩ := rng (m := 60) (by decide) (hr4 i hi).2.2.1 (hr4 i hi).2.2.2
  obtain ⟨a, ha, ea⟩ := rng (m := 31) (by decide) (hr4 i hi).2.1.1 (hr4 i hi).2.1.2
  have n28 : ¬ 24 + i = 28 + i := by omega
  refine Xv_mk (L := [some (.ref (B + 13)), some (.int (nI i)), some (.int e)]) (by decide) rfl (Nat.le_of_ble_eq_true rfl) rfl (fun x C => ?_)
  refine y_aload_n C dX0_countMinute_0 rfl ?_
  refine g_X0_muting C hB dX0_countMinute_1 (by decide +kernel) (by decide +kernel) ?_
  refine y_iload_n C dX0_countMinute_4 rfl ?_
  refine y_aload_n C dX0_countMinute_5 rfl ?_
  refine g_X0_muting C hB dX0_countMinute_6 (by decide +kernel) (by decide +kernel) ?_
  refine y_iload_n C dX0_countMinute_9 rfl ?_
  refine aR C hB hR (28 + i) 15 i 4 (pl_lo28 _ (by omega)) (lv_l (by omega) (by omega)) (by decide) rfl (by decide) rfl (by omega) dX0_countMinute_10 ?_
  refine y_iconst (v := 1) C dX0_countMinute_11 (by decide) ?_
  refine y_isub C dX0_countMinute_12 ?_
  refine y_iconst (v := 0) C dX0_countMinute_13 (by decide) ?_
  refine y_mmax C dX0_countMinute_14 (by decide +kernel) (by decide +kernel) (by decide +kernel) (by decide +kernel) rfl (Nat.le_of_ble_eq_true rfl) (Nat.le_of_ble_eq_true rfl) ⟨Nat.zero_le _, Nat.zero_le _⟩ ?_
  refine wR C hB hR (28 + i) 15 i 4 (pl_lo28 i hi) (by omega) (by omega) (lv_upd (by omega) (by omega) (by omega)) (by decide) rfl (by decide) rfl (by omega) dX0_countMinute_17 (fun σ1 hR1 hF1 => ?_)
  refine y_aload_n C dX0_countMinute_18 rfl ?_
  refine g_X0_rest C hB dX0_countMinute_19 (by decide +kernel) (by decide +kernel) ?_
  refine y_iload_n C dX0_countMinute_22 rfl ?_
  refine y_iload_n C dX0_countMinute_23 rfl ?_
  refine y_if_eq (t := 36) C dX0_countMinute_24 (by decide) (fun c24 => ?_) (fun c24 => ?_)
  · -- t
    refine y_aload_n C dX0_countMinute_36 rfl ?_
    refine g_X0_rest C hB dX0_countMinute_37 (by decide +kernel) (by decide +kernel) ?_
    refine y_iload_n C dX0_countMinute_40 rfl ?_
    refine aR C hB hR1 (24 + i) 14 i 4 (pl_lo24 _ (by omega)) (lv_l (by omega) (by omega)) (by decide) rfl (by decide) rfl (by omega) dX0_countMinute_41 ?_
    refine y_iconst (v := 1) C dX0_countMinute_42 (by decide) ?_
    refine y_isub C dX0_countMinute_43 ?_
    refine y_iconst (v := 0) C dX0_countMinute_44 (by decide) ?_
    refine y_mmax C dX0_countMinute_45 (by decide +kernel) (by decide +kernel) (by decide +kernel) (by decide +kernel) rfl (Nat.le_of_ble_eq_true rfl) (Nat.le_of_ble_eq_true rfl) ⟨Nat.zero_le _, Nat.zero_le _⟩ ?_
    refine wR C hB hR1 (24 + i) 14 i 4 (pl_lo24 i hi) (by omega) (by omega) (lv_upd (by omega) (by omega) (by omega)) (by decide) rfl (by decide) rfl (by omega) dX0_countMinute_48 (fun σ2 hR2 hF2 => ?_)
    exact y_vret C rfl dX0_countMinute_49 (⟨by
        have u24 : ∀ v, upd r (28 + i) v (24 + i) = r (24 + i) := fun v => by simp [upd, n28]
        have u2 : ∀ v, upd r (28 + i) v 2 = r 2 := fun v => by simp [upd, show ¬ 2 = 28 + i by omega]
        rw [(max_1 (by omega) em).1] at hR2
        unfold mCM
        first
          | (rw [if_pos c24]; rw [u24, (max_1 (by omega) ea).2] at hR2; exact hR2; done)
          | (rw [if_neg c24]; rw [u2] at hR2; exact hR2), hF1.trans hF2, rfl⟩)
  · -- f
    refine y_aload_n C dX0_countMinute_27 rfl ?_
    refine gR_X0_hold C hB hR1 dX0_countMinute_28 (by decide +kernel) (by decide +kernel) ?_
    refine y_iconst (v := 1) C dX0_countMinute_31 (by decide) ?_
    refine y_iadd C dX0_countMinute_32 ?_
    refine y_goto (t := 48) C dX0_countMinute_33 (by decide) ?_
    refine wR C hB hR1 (24 + i) 14 i 4 (pl_lo24 i hi) (by omega) (by omega) (lv_upd (by omega) (by omega) (by omega)) (by decide) rfl (by decide) rfl (by omega) dX0_countMinute_48 (fun σ2 hR2 hF2 => ?_)
    exact y_vret C rfl dX0_countMinute_49 (⟨by
        have u24 : ∀ v, upd r (28 + i) v (24 + i) = r (24 + i) := fun v => by simp [upd, n28]
        have u2 : ∀ v, upd r (28 + i) v 2 = r 2 := fun v => by simp [upd, show ¬ 2 = 28 + i by omega]
        rw [(max_1 (by omega) em).1] at hR2
        unfold mCM
        first
          | (rw [if_pos c24]; rw [u24, (max_1 (by omega) ea).2] at hR2; exact hR2; done)
          | (rw [if_neg c24]; rw [u2] at hR2; exact hR2), hF1.trans hF2, rfl⟩)
set_option maxHeartbeats 4000000 in
set_option maxRecDepth 100000 in
theorem e_X7_letSmokeRise {B : Nat} (hB : isW B) {r : Rw} (σ : xS) (τ : xT) (hR : Rel σ B r) (s : Int32) : Xv mX7_letSmokeRise [.ref B, .int s] σ τ (fun σ1 τ1 => Rel σ1 B (mB2 r s) ∧ Fr (wS B) σ σ1 ∧ τ = τ1) := by
  refine Xv_mk (L := [some (.ref B), some (.int s), none, none, none, none, none]) (by decide) rfl (Nat.le_of_ble_eq_true rfl) rfl (fun x C => ?_)
  refine y_aload_n C dX7_letSmokeRise_0 rfl ?_
  refine g_X7_hearth C hB dX7_letSmokeRise_1 (by decide +kernel) (by decide +kernel) ?_
  refine y_callVi C (e_X2_draft hB _ _ hR) dX7_letSmokeRise_4 rfl gX7_letSmokeRise_X2_draft rfl (is_X2 hB) ⟨rfl, qX2_draft⟩ ⟨rfl, rfl⟩ ⟨Nat.le_of_ble_eq_true rfl, Nat.le_of_ble_eq_true rfl⟩ rfl (Nat.le_of_ble_eq_true rfl) ⟨Nat.zero_le _, Nat.zero_le _⟩ (fun v1 σ1 τ1 hq => ?_)
  obtain ⟨rfl, rfl, rfl⟩ := hq
  refine y_istore_n C dX7_letSmokeRise_7 (L' := [_, _, _, _, _, _, _]) (Nat.lt_of_lt_of_le (by decide : (2 : Nat) < 7) (Nat.le_refl _)) rfl ?_
  refine y_bipush (v := 40) C dX7_letSmokeRise_8 (by decide) ?_
  refine y_iload_n C dX7_letSmokeRise_10 rfl ?_
  refine y_imul C dX7_letSmokeRise_11 ?_
  refine y_istore_n C dX7_letSmokeRise_12 (L' := [_, _, _, _, _, _, _]) (Nat.lt_of_lt_of_le (by decide : (3 : Nat) < 7) (Nat.le_refl _)) rfl ?_
  refine y_iload_n C dX7_letSmokeRise_13 rfl ?_
  refine y_iconst (v := 2) C dX7_letSmokeRise_14 (by decide) ?_
  refine y_iload_n C dX7_letSmokeRise_15 rfl ?_
  refine y_imul C dX7_letSmokeRise_16 ?_
  refine y_mmin C dX7_letSmokeRise_17 (by decide +kernel) (by decide +kernel) (by decide +kernel) (by decide +kernel) rfl (Nat.le_of_ble_eq_true rfl) (Nat.le_of_ble_eq_true rfl) ⟨Nat.zero_le _, Nat.zero_le _⟩ ?_
  refine y_topE (mLes (40 * s) (2 * mDra r)) (mLes_comm _ _) ?_
  refine y_istore C dX7_letSmokeRise_20 (L' := [_, _, _, _, _, _, _]) (Nat.lt_of_lt_of_le (by decide : (4 : Nat) < 7) (Nat.le_refl _)) rfl ?_
  refine y_aload_n C dX7_letSmokeRise_22 rfl ?_
  refine g_X7_house C hB dX7_letSmokeRise_23 (by decide +kernel) (by decide +kernel) ?_
  refine g_X3_smoke C hB dX7_letSmokeRise_26 (by decide +kernel) (by decide +kernel) ?_
  refine y_iconst (v := 0) C dX7_letSmokeRise_29 (by decide) ?_
  refine aR C hB hR (20 + 0) 2 0 4 (pl_lo20 _ (by omega)) (lv_l (by omega) (by omega)) (by decide) rfl (by decide) rfl (by omega) dX7_letSmokeRise_30 ?_
  refine y_iload_n C dX7_letSmokeRise_31 rfl ?_
  refine y_iadd C dX7_letSmokeRise_32 ?_
  refine y_iload C dX7_letSmokeRise_33 rfl ?_
  refine y_isub C dX7_letSmokeRise_35 ?_
  refine y_topE (r 20 + (40 * s - mLes (40 * s) (2 * mDra r))) (i_asub _ _ _) ?_
  refine y_istore C dX7_letSmokeRise_36 (L' := [_, _, _, _, _, _, _]) (Nat.lt_of_lt_of_le (by decide : (5 : Nat) < 7) (Nat.le_refl _)) rfl ?_
  refine y_iload C dX7_letSmokeRise_38 rfl ?_
  refine y_iload_n C dX7_letSmokeRise_40 rfl ?_
  refine y_iconst (v := 2) C dX7_letSmokeRise_41 (by decide) ?_
  refine y_idiv C dX7_letSmokeRise_42 (by decide) ?_
  refine y_mmin C dX7_letSmokeRise_43 (by decide +kernel) (by decide +kernel) (by decide +kernel) (by decide +kernel) rfl (Nat.le_of_ble_eq_true rfl) (Nat.le_of_ble_eq_true rfl) ⟨Nat.zero_le _, Nat.zero_le _⟩ ?_
  refine y_topE (mLes (mDra r / 2) (r 20 + (40 * s - mLes (40 * s) (2 * mDra r)))) rfl ?_
  refine y_istore C dX7_letSmokeRise_46 (L' := [_, _, _, _, _, _, _]) (Nat.lt_of_lt_of_le (by decide : (6 : Nat) < 7) (Nat.le_refl _)) rfl ?_
  refine y_aload_n C dX7_letSmokeRise_48 rfl ?_
  refine g_X7_house C hB dX7_letSmokeRise_49 (by decide +kernel) (by decide +kernel) ?_
  refine g_X3_smoke C hB dX7_letSmokeRise_52 (by decide +kernel) (by decide +kernel) ?_
  refine y_iconst (v := 0) C dX7_letSmokeRise_55 (by decide) ?_
  refine y_iload C dX7_letSmokeRise_56 rfl ?_
  refine y_iload C dX7_letSmokeRise_58 rfl ?_
  refine y_isub C dX7_letSmokeRise_60 ?_
  refine wR C hB hR (20) 2 0 4 rfl (by omega) (by omega) (lv_upd (by omega) (by omega) (by omega)) (by decide) rfl (by decide) rfl (by omega) dX7_letSmokeRise_61 (fun σ1 hR1 hF1 => ?_)
  refine y_aload_n C dX7_letSmokeRise_62 rfl ?_
  refine g_X7_counts C hB dX7_letSmokeRise_63 (by decide +kernel) (by decide +kernel) ?_
  refine y_iconst (v := 3) C dX7_letSmokeRise_66 (by decide) ?_
  refine y_dup2 C dX7_letSmokeRise_67 rfl rfl ?_
  refine aR C hB hR1 16 26 3 6 rfl (lv_l (by decide) (by decide)) (by decide) rfl (by decide) rfl (by decide) dX7_letSmokeRise_68 ?_
  refine y_iload C dX7_letSmokeRise_69 rfl ?_
  refine y_iload C dX7_letSmokeRise_71 rfl ?_
  refine y_iadd C dX7_letSmokeRise_73 ?_
  refine y_iadd C dX7_letSmokeRise_74 ?_
  refine wR C hB hR1 (16) 26 3 6 rfl (by omega) (by omega) (lv_upd (by omega) (by omega) (by omega)) (by decide) rfl (by decide) rfl (by omega) dX7_letSmokeRise_75 (fun σ2 hR2 hF2 => ?_)
  exact y_vret C rfl dX7_letSmokeRise_76 (⟨hR2, hF1.trans hF2, rfl⟩)
