theorem pl_lo24 : ∀ i, i < 4 → pl (24 + i) = (14, i) := by decide +kernel
theorem pl_lo28 : ∀ i, i < 4 → pl (28 + i) = (15, i) := by decide +kernel
theorem pl_lo20 : ∀ i, i < 4 → pl (20 + i) = (2, i) := by decide +kernel
theorem pl_lo13 : ∀ i, i < 6 → pl (13 + i) = (26, i) := by decide +kernel

set_option maxHeartbeats 4000000 in
set_option maxRecDepth 100000 in
theorem e_X2_strength {B : Nat} (hB : isW B) {r : Rw} (σ : xS) (τ : xT) (hR : Rel σ B r) : Xi mX2_strength [.ref (B + 4)] σ τ (fun o σ1 τ1 => o = (mStr r) ∧ σ = σ1 ∧ τ = τ1) := by
  refine Xi_mk (L := [some (.ref (B + 4))]) (by decide) rfl (Nat.le_of_ble_eq_true rfl) rfl (fun x C => ?_)
  refine y_aload_n C dX2_strength_0 rfl ?_
  refine gR_X2_fuel C hB hR dX2_strength_1 (by decide +kernel) (by decide +kernel) ?_
  refine y_if_ne (t := 11) C dX2_strength_4 (by decide) (fun c4 => ?_) (fun c4 => ?_)
  · -- t
    refine y_iconst (v := 1) C dX2_strength_11 (by decide) ?_
    refine y_aload_n C dX2_strength_12 rfl ?_
    refine gR_X2_fuel C hB hR dX2_strength_13 (by decide +kernel) (by decide +kernel) ?_
    refine y_bipush (v := 25) C dX2_strength_16 (by decide) ?_
    refine y_idiv C dX2_strength_18 (by decide) ?_
    refine y_iadd C dX2_strength_19 ?_
    exact y_iret C rfl dX2_strength_20 (⟨by simp only [mStr, Int32.lt_iff_toInt_lt, Int32.le_iff_toInt_le] at *; (repeat' split) <;> simp_all <;> omega, rfl, rfl⟩)
  · -- f
    refine y_iconst (v := 0) C dX2_strength_7 (by decide) ?_
    refine y_goto (t := 20) C dX2_strength_8 (by decide) ?_
    exact y_iret C rfl dX2_strength_20 (⟨by simp only [mStr, Int32.lt_iff_toInt_lt, Int32.le_iff_toInt_le] at *; (repeat' split) <;> simp_all <;> omega, rfl, rfl⟩)
set_option maxHeartbeats 4000000 in
set_option maxRecDepth 100000 in
theorem e_X2_draft {B : Nat} (hB : isW B) {r : Rw} (σ : xS) (τ : xT) (hR : Rel σ B r) : Xi mX2_draft [.ref (B + 4)] σ τ (fun o σ1 τ1 => o = (mDra r) ∧ σ = σ1 ∧ τ = τ1) := by
  refine Xi_mk (L := [some (.ref (B + 4)), none]) (by decide) rfl (Nat.le_of_ble_eq_true rfl) rfl (fun x C => ?_)
  refine y_aload_n C dX2_draft_0 rfl ?_
  refine gR_X2_warmth C hB hR dX2_draft_1 (by decide +kernel) (by decide +kernel) ?_
  refine y_aload_n C dX2_draft_4 rfl ?_
  refine gR_X2_opening C hB hR dX2_draft_5 (by decide +kernel) (by decide +kernel) ?_
  refine y_imul C dX2_draft_8 ?_
  refine y_bipush (v := 8) C dX2_draft_9 (by decide) ?_
  refine y_idiv C dX2_draft_11 (by decide) ?_
  refine y_aload_n C dX2_draft_12 rfl ?_
  refine gR_X2_wind C hB hR dX2_draft_13 (by decide +kernel) (by decide +kernel) ?_
  refine y_isub C dX2_draft_16 ?_
  refine y_istore_n C dX2_draft_17 (L' := [_, _]) (Nat.lt_of_lt_of_le (by decide : (1 : Nat) < 2) (Nat.le_refl _)) rfl ?_
  refine y_iload_n C dX2_draft_18 rfl ?_
  refine y_if_ge (t := 26) C dX2_draft_19 (by decide) (fun c19 => ?_) (fun c19 => ?_)
  · -- t
    refine y_iload_n C dX2_draft_26 rfl ?_
    exact y_iret C rfl dX2_draft_27 (⟨by simp only [mDra]; first | rw [if_neg (Int32.not_lt.mpr c19)] | rw [if_pos (Int32.not_le.mp c19)], rfl, rfl⟩)
  · -- f
    refine y_iconst (v := 0) C dX2_draft_22 (by decide) ?_
    refine y_goto (t := 27) C dX2_draft_23 (by decide) ?_
    exact y_iret C rfl dX2_draft_27 (⟨by simp only [mDra]; first | rw [if_neg (Int32.not_lt.mpr c19)] | rw [if_pos (Int32.not_le.mp c19)], rfl, rfl⟩)
set_option maxHeartbeats 4000000 in
set_option maxRecDepth 100000 in
theorem e_X2_feed {B : Nat} (hB : isW B) {r : Rw} (σ : xS) (τ : xT) (hR : Rel σ B r) (u : Int32) : Xv mX2_feed [.ref (B + 4), .int u] σ τ (fun σ1 τ1 => Rel σ1 B (upd r 8 (if 200 < r 8 + u then 200 else r 8 + u)) ∧ Fr (wS B) σ σ1 ∧ τ = τ1) := by
  refine Xv_mk (L := [some (.ref (B + 4)), some (.int u)]) (by decide) rfl (Nat.le_of_ble_eq_true rfl) rfl (fun x C => ?_)
  refine y_aload_n C dX2_feed_0 rfl ?_
  refine y_aload_n C dX2_feed_1 rfl ?_
  refine gR_X2_fuel C hB hR dX2_feed_2 (by decide +kernel) (by decide +kernel) ?_
  refine y_iload_n C dX2_feed_5 rfl ?_
  refine y_iadd C dX2_feed_6 ?_
  refine y_sipush (v := 200) C dX2_feed_7 (by decide) ?_
  refine y_mmin C dX2_feed_10 (by decide +kernel) (by decide +kernel) (by decide +kernel) (by decide +kernel) rfl (Nat.le_of_ble_eq_true rfl) (Nat.le_of_ble_eq_true rfl) ⟨Nat.zero_le _, Nat.zero_le _⟩ ?_
  refine pR_X2_fuel C hB hR dX2_feed_13 (by decide +kernel) (by decide +kernel) (fun σ1 hR1 hF1 => ?_)
  exact y_vret C rfl dX2_feed_16 (⟨hR1, hF1, rfl⟩)
set_option maxHeartbeats 4000000 in
set_option maxRecDepth 100000 in
theorem e_X0_soundsIn {B : Nat} (hB : isW B) {r : Rw} (σ : xS) (τ : xT) (hR : Rel σ B r) (i : Nat) (hi : i < 4) : Xi mX0_soundsIn [.ref (B + 13), .int (nI i)] σ τ (fun o σ1 τ1 => o = (mAlaI r i) ∧ σ = σ1 ∧ τ = τ1) := by
  refine Xi_mk (L := [some (.ref (B + 13)), some (.int (nI i))]) (by decide) rfl (Nat.le_of_ble_eq_true rfl) rfl (fun x C => ?_)
  refine y_aload_n C dX0_soundsIn_0 rfl ?_
  refine g_X0_rest C hB dX0_soundsIn_1 (by decide +kernel) (by decide +kernel) ?_
  refine y_iload_n C dX0_soundsIn_4 rfl ?_
  refine aR C hB hR (24 + i) 14 i 4 (pl_lo24 _ (by omega)) (lv_l (by omega) (by omega)) (by decide) rfl (by decide) rfl (by omega) dX0_soundsIn_5 ?_
  refine y_if_le (t := 22) C dX0_soundsIn_6 (by decide) (fun c6 => ?_) (fun c6 => ?_)
  · -- t
    refine y_iconst (v := 0) C dX0_soundsIn_22 (by decide) ?_
    exact y_zret C rfl dX0_soundsIn_23 (by first | exact Or.inl rfl | exact Or.inr rfl) (⟨by simp only [mAlaI, Int32.lt_iff_toInt_lt, Int32.le_iff_toInt_le] at *; (repeat' split) <;> simp_all <;> omega, rfl, rfl⟩)
  · -- f
    refine y_aload_n C dX0_soundsIn_9 rfl ?_
    refine g_X0_muting C hB dX0_soundsIn_10 (by decide +kernel) (by decide +kernel) ?_
    refine y_iload_n C dX0_soundsIn_13 rfl ?_
    refine aR C hB hR (28 + i) 15 i 4 (pl_lo28 _ (by omega)) (lv_l (by omega) (by omega)) (by decide) rfl (by decide) rfl (by omega) dX0_soundsIn_14 ?_
    refine y_if_ne (t := 22) C dX0_soundsIn_15 (by decide) (fun c15 => ?_) (fun c15 => ?_)
    · -- t
      refine y_iconst (v := 0) C dX0_soundsIn_22 (by decide) ?_
      exact y_zret C rfl dX0_soundsIn_23 (by first | exact Or.inl rfl | exact Or.inr rfl) (⟨by simp only [mAlaI, Int32.lt_iff_toInt_lt, Int32.le_iff_toInt_le] at *; (repeat' split) <;> simp_all <;> omega, rfl, rfl⟩)
    · -- f
      refine y_iconst (v := 1) C dX0_soundsIn_18 (by decide) ?_
      refine y_goto (t := 23) C dX0_soundsIn_19 (by decide) ?_
      exact y_zret C rfl dX0_soundsIn_23 (by first | exact Or.inl rfl | exact Or.inr rfl) (⟨by simp only [mAlaI, Int32.lt_iff_toInt_lt, Int32.le_iff_toInt_le] at *; (repeat' split) <;> simp_all <;> omega, rfl, rfl⟩)
set_option maxHeartbeats 4000000 in
set_option maxRecDepth 100000 in
theorem e_X6_has {B : Nat} (hB : isW B) {r : Rw} (σ : xS) (τ : xT) (hR : Rel σ B r) (u : Int32) : Xi mX6_has [.ref (B + 5), .int u] σ τ (fun o σ1 τ1 => o = (mSensI r u) ∧ σ = σ1 ∧ τ = τ1) := by
  refine Xi_mk (L := [some (.ref (B + 5)), some (.int u)]) (by decide) rfl (Nat.le_of_ble_eq_true rfl) rfl (fun x C => ?_)
  refine y_iload_n C dX6_has_0 rfl ?_
  refine y_if_lt (t := 16) C dX6_has_1 (by decide) (fun c1 => ?_) (fun c1 => ?_)
  · -- t
    refine y_iconst (v := 0) C dX6_has_16 (by decide) ?_
    exact y_zret C rfl dX6_has_17 (by first | exact Or.inl rfl | exact Or.inr rfl) (⟨by simp only [mSensI, Int32.lt_iff_toInt_lt, Int32.le_iff_toInt_le] at *; (repeat' split) <;> simp_all <;> omega, rfl, rfl⟩)
  · -- f
    refine y_iload_n C dX6_has_4 rfl ?_
    refine y_aload_n C dX6_has_5 rfl ?_
    refine gR_X6_count C hB hR dX6_has_6 (by decide +kernel) (by decide +kernel) ?_
    refine y_icmp_ge (t := 16) C dX6_has_9 (by decide) (fun c9 => ?_) (fun c9 => ?_)
    · -- t
      refine y_iconst (v := 0) C dX6_has_16 (by decide) ?_
      exact y_zret C rfl dX6_has_17 (by first | exact Or.inl rfl | exact Or.inr rfl) (⟨by simp only [mSensI, Int32.lt_iff_toInt_lt, Int32.le_iff_toInt_le] at *; (repeat' split) <;> simp_all <;> omega, rfl, rfl⟩)
    · -- f
      refine y_iconst (v := 1) C dX6_has_12 (by decide) ?_
      refine y_goto (t := 17) C dX6_has_13 (by decide) ?_
      exact y_zret C rfl dX6_has_17 (by first | exact Or.inl rfl | exact Or.inr rfl) (⟨by simp only [mSensI, Int32.lt_iff_toInt_lt, Int32.le_iff_toInt_le] at *; (repeat' split) <;> simp_all <;> omega, rfl, rfl⟩)
set_option maxHeartbeats 4000000 in
set_option maxRecDepth 100000 in
theorem e_X5_has {B : Nat} (hB : isW B) {r : Rw} (σ : xS) (τ : xT) (hR : Rel σ B r) (u : Int32) : Xi mX5_has [.ref (B + 16), .int u] σ τ (fun o σ1 τ1 => o = (if 0 ≤ u ∧ u < r 11 then 1 else 0) ∧ σ = σ1 ∧ τ = τ1) := by
  refine Xi_mk (L := [some (.ref (B + 16)), some (.int u)]) (by decide) rfl (Nat.le_of_ble_eq_true rfl) rfl (fun x C => ?_)
  refine y_iload_n C dX5_has_0 rfl ?_
  refine y_if_lt (t := 16) C dX5_has_1 (by decide) (fun c1 => ?_) (fun c1 => ?_)
  · -- t
    refine y_iconst (v := 0) C dX5_has_16 (by decide) ?_
    exact y_zret C rfl dX5_has_17 (by first | exact Or.inl rfl | exact Or.inr rfl) (⟨by simp only [Int32.lt_iff_toInt_lt, Int32.le_iff_toInt_le] at *; (repeat' split) <;> simp_all <;> omega, rfl, rfl⟩)
  · -- f
    refine y_iload_n C dX5_has_4 rfl ?_
    refine y_aload_n C dX5_has_5 rfl ?_
    refine gR_X5_count C hB hR dX5_has_6 (by decide +kernel) (by decide +kernel) ?_
    refine y_icmp_ge (t := 16) C dX5_has_9 (by decide) (fun c9 => ?_) (fun c9 => ?_)
    · -- t
      refine y_iconst (v := 0) C dX5_has_16 (by decide) ?_
      exact y_zret C rfl dX5_has_17 (by first | exact Or.inl rfl | exact Or.inr rfl) (⟨by simp only [Int32.lt_iff_toInt_lt, Int32.le_iff_toInt_le] at *; (repeat' split) <;> simp_all <;> omega, rfl, rfl⟩)
    · -- f
      refine y_iconst (v := 1) C dX5_has_12 (by decide) ?_
      refine y_goto (t := 17) C dX5_has_13 (by decide) ?_
      exact y_zret C rfl dX5_has_17 (by first | exact Or.inl rfl | exact Or.inr rfl) (⟨by simp only [Int32.lt_iff_toInt_lt, Int32.le_iff_toInt_le] at *; (repeat' split) <;> simp_all <;> omega, rfl, rfl⟩)
set_option maxHeartbeats 4000000 in
set_option maxRecDepth 100000 in
theorem e_X1_has {B : Nat} (hB : isW B) {r : Rw} (σ : xS) (τ : xT) (hR : Rel σ B r) (u : Int32) : Xi mX1_has [.ref (B + 21), .int u] σ τ (fun o σ1 τ1 => o = (if 0 ≤ u ∧ u < r 12 then 1 else 0) ∧ σ = σ1 ∧ τ = τ1) := by
  refine Xi_mk (L := [some (.ref (B + 21)), some (.int u)]) (by decide) rfl (Nat.le_of_ble_eq_true rfl) rfl (fun x C => ?_)
  refine y_iload_n C dX1_has_0 rfl ?_
  refine y_if_lt (t := 16) C dX1_has_1 (by decide) (fun c1 => ?_) (fun c1 => ?_)
  · -- t
    refine y_iconst (v := 0) C dX1_has_16 (by decide) ?_
    exact y_zret C rfl dX1_has_17 (by first | exact Or.inl rfl | exact Or.inr rfl) (⟨by simp only [Int32.lt_iff_toInt_lt, Int32.le_iff_toInt_le] at *; (repeat' split) <;> simp_all <;> omega, rfl, rfl⟩)
  · -- f
    refine y_iload_n C dX1_has_4 rfl ?_
    refine y_aload_n C dX1_has_5 rfl ?_
    refine gR_X1_count C hB hR dX1_has_6 (by decide +kernel) (by decide +kernel) ?_
    refine y_icmp_ge (t := 16) C dX1_has_9 (by decide) (fun c9 => ?_) (fun c9 => ?_)
    · -- t
      refine y_iconst (v := 0) C dX1_has_16 (by decide) ?_
      exact y_zret C rfl dX1_has_17 (by first | exact Or.inl rfl | exact Or.inr rfl) (⟨by simp only [Int32.lt_iff_toInt_lt, Int32.le_iff_toInt_le] at *; (repeat' split) <;> simp_all <;> omega, rfl, rfl⟩)
    · -- f
      refine y_iconst (v := 1) C dX1_has_12 (by decide) ?_
      refine y_goto (t := 17) C dX1_has_13 (by decide) ?_
      exact y_zret C rfl dX1_has_17 (by first | exact Or.inl rfl | exact Or.inr rfl) (⟨by simp only [Int32.lt_iff_toInt_lt, Int32.le_iff_toInt_le] at *; (repeat' split) <;> simp_all <;> omega, rfl, rfl⟩)
set_option maxHeartbeats 4000000 in
set_option maxRecDepth 100000 in
theorem e_X6_votes {B : Nat} (hB : isW B) {r : Rw} (σ : xS) (τ : xT) (hR : Rel σ B r) {R ns nr ne t tl : Nat} (I : Inv r R ns nr ne t tl) (i : Nat) (hi : i < ns) : Xi mX6_votes [.ref (B + 5), .int (nI i)] σ τ (fun o σ1 τ1 => o = (mVotI r i) ∧ σ = σ1 ∧ τ = τ1) := by
  refine Xi_mk (L := [some (.ref (B + 5)), some (.int (nI i))]) (by decide) rfl (Nat.le_of_ble_eq_true rfl) rfl (fun x C => ?_)
  refine y_aload_n C dX6_votes_0 rfl ?_
  refine g_X6_fault C hB dX6_votes_1 (by decide +kernel) (by decide +kernel) ?_
  refine y_iload_n C dX6_votes_4 rfl ?_
  refine aR C hB hR (57 + 7 * i + 5) 11 i 8 (pl_s _ (by have := I.1.2.1.2; omega) _ (by decide)) (lv_s (by have := I.1.2.1.2; omega) (by decide) (inv_s I hi)) (by decide) rfl (by decide) rfl (by have := I.1.2.1.2; omega) dX6_votes_5 ?_
  refine y_iconst (v := 2) C dX6_votes_6 (by decide) ?_
  refine y_icmp_eq (t := 34) C dX6_votes_7 (by decide) (fun c7 => ?_) (fun c7 => ?_)
  · -- t
    refine y_iconst (v := 1) C dX6_votes_34 (by decide) ?_
    refine y_goto (t := 39) C dX6_votes_35 (by decide) ?_
    exact y_zret C rfl dX6_votes_39 (by first | exact Or.inl rfl | exact Or.inr rfl) (⟨by simp only [mVotI, Int32.lt_iff_toInt_lt, Int32.le_iff_toInt_le] at *; (repeat' split) <;> simp_all <;> omega, rfl, rfl⟩)
  · -- f
    refine y_aload_n C dX6_votes_10 rfl ?_
    refine g_X6_fault C hB dX6_votes_11 (by decide +kernel) (by decide +kernel) ?_
    refine y_iload_n C dX6_votes_14 rfl ?_
    refine aR C hB hR (57 + 7 * i + 5) 11 i 8 (pl_s _ (by have := I.1.2.1.2; omega) _ (by decide)) (lv_s (by have := I.1.2.1.2; omega) (by decide) (inv_s I hi)) (by decide) rfl (by decide) rfl (by have := I.1.2.1.2; omega) dX6_votes_15 ?_
    refine y_if_ne (t := 38) C dX6_votes_16 (by decide) (fun c16 => ?_) (fun c16 => ?_)
    · -- t
      refine y_iconst (v := 0) C dX6_votes_38 (by decide) ?_
      exact y_zret C rfl dX6_votes_39 (by first | exact Or.inl rfl | exact Or.inr rfl) (⟨by simp only [mVotI, Int32.lt_iff_toInt_lt, Int32.le_iff_toInt_le] at *; (repeat' split) <;> simp_all <;> omega, rfl, rfl⟩)
    · -- f
      refine y_aload_n C dX6_votes_19 rfl ?_
      refine g_X6_excitedFor C hB dX6_votes_20 (by decide +kernel) (by decide +kernel) ?_
      refine y_iload_n C dX6_votes_23 rfl ?_
      refine aR C hB hR (57 + 7 * i + 6) 12 i 8 (pl_s _ (by have := I.1.2.1.2; omega) _ (by decide)) (lv_s (by have := I.1.2.1.2; omega) (by decide) (inv_s I hi)) (by decide) rfl (by decide) rfl (by have := I.1.2.1.2; omega) dX6_votes_24 ?_
      refine y_aload_n C dX6_votes_25 rfl ?_
      refine g_X6_delay C hB dX6_votes_26 (by decide +kernel) (by decide +kernel) ?_
      refine y_iload_n C dX6_votes_29 rfl ?_
      refine aR C hB hR (57 + 7 * i + 3) 9 i 8 (pl_s _ (by have := I.1.2.1.2; omega) _ (by decide)) (lv_s (by have := I.1.2.1.2; omega) (by decide) (inv_s I hi)) (by decide) rfl (by decide) rfl (by have := I.1.2.1.2; omega) dX6_votes_30 ?_
      refine y_icmp_le (t := 38) C dX6_votes_31 (by decide) (fun c31 => ?_) (fun c31 => ?_)
      · -- t
        refine y_iconst (v := 0) C dX6_votes_38 (by decide) ?_
        exact y_zret C rfl dX6_votes_39 (by first | exact Or.inl rfl | exact Or.inr rfl) (⟨by simp only [mVotI, Int32.lt_iff_toInt_lt, Int32.le_iff_toInt_le] at *; (repeat' split) <;> simp_all <;> omega, rfl, rfl⟩)
      · -- f
        refine y_iconst (v := 1) C dX6_votes_34 (by decide) ?_
        refine y_goto (t := 39) C dX6_votes_35 (by decide) ?_
        exact y_zret C rfl dX6_votes_39 (by first | exact Or.inl rfl | exact Or.inr rfl) (⟨by simp only [mVotI, Int32.lt_iff_toInt_lt, Int32.le_iff_toInt_le] at *; (repeat' split) <;> simp_all <;> omega, rfl, rfl⟩)
set_option maxHeartbeats 4000000 in
set_option maxRecDepth 100000 in
theorem e_X3_isRoom {B : Nat} (hB : isW B) {r : Rw} (σ : xS) (τ : xT) (hR : Rel σ B r) (u : Int32) : Xi mX3_isRoom [.ref (B + 1), .int u] σ τ (fun o σ1 τ1 => o = (mRoomI r u) ∧ σ = σ1 ∧ τ = τ1) := by
  refine Xi_mk (L := [some (.ref (B + 1)), some (.int u)]) (by decide) rfl (Nat.le_of_ble_eq_true rfl) rfl (fun x C => ?_)
  refine y_iload_n C dX3_isRoom_0 rfl ?_
  refine y_if_lt (t := 16) C dX3_isRoom_1 (by decide) (fun c1 => ?_) (fun c1 => ?_)
  · -- t
    refine y_iconst (v := 0) C dX3_isRoom_16 (by decide) ?_
    exact y_zret C rfl dX3_isRoom_17 (by first | exact Or.inl rfl | exact Or.inr rfl) (⟨by simp only [mRoomI, Int32.lt_iff_toInt_lt, Int32.le_iff_toInt_le] at *; (repeat' split) <;> simp_all <;> omega, rfl, rfl⟩)
  · -- f
    refine y_iload_n C dX3_isRoom_4 rfl ?_
    refine y_aload_n C dX3_isRoom_5 rfl ?_
    refine gR_X3_rooms C hB hR dX3_isRoom_6 (by decide +kernel) (by decide +kernel) ?_
    refine y_icmp_ge (t := 16) C dX3_isRoom_9 (by decide) (fun c9 => ?_) (fun c9 => ?_)
    · -- t
      refine y_iconst (v := 0) C dX3_isRoom_16 (by decide) ?_
      exact y_zret C rfl dX3_isRoom_17 (by first | exact Or.inl rfl | exact Or.inr rfl) (⟨by simp only [mRoomI, Int32.lt_iff_toInt_lt, Int32.le_iff_toInt_le] at *; (repeat' split) <;> simp_all <;> omega, rfl, rfl⟩)
    · -- f
      refine y_iconst (v := 1) C dX3_isRoom_12 (by decide) ?_
      refine y_goto (t := 17) C dX3_isRoom_13 (by decide) ?_
      exact y_zret C rfl dX3_isRoom_17 (by first | exact Or.inl rfl | exact Or.inr rfl) (⟨by simp only [mRoomI, Int32.lt_iff_toInt_lt, Int32.le_iff_toInt_le] at *; (repeat' split) <;> simp_all <;> omega, rfl, rfl⟩)
set_option maxHeartbeats 4000000 in
set_option maxRecDepth 100000 in
theorem e_X3_isPlace {B : Nat} (hB : isW B) {r : Rw} (σ : xS) (τ : xT) (hR : Rel σ B r) (u : Int32) : Xi mX3_isPlace [.ref (B + 1), .int u] σ τ (fun o σ1 τ1 => o = (mPlacI r u) ∧ σ = σ1 ∧ τ = τ1) := by
  refine Xi_mk (L := [some (.ref (B + 1)), some (.int u)]) (by decide) rfl (Nat.le_of_ble_eq_true rfl) rfl (fun x C => ?_)
  refine y_iload_n C dX3_isPlace_0 rfl ?_
  refine y_if_lt (t := 16) C dX3_isPlace_1 (by decide) (fun c1 => ?_) (fun c1 => ?_)
  · -- t
    refine y_iconst (v := 0) C dX3_isPlace_16 (by decide) ?_
    exact y_zret C rfl dX3_isPlace_17 (by first | exact Or.inl rfl | exact Or.inr rfl) (⟨by simp only [mPlacI, Int32.lt_iff_toInt_lt, Int32.le_iff_toInt_le] at *; (repeat' split) <;> simp_all <;> omega, rfl, rfl⟩)
  · -- f
    refine y_iload_n C dX3_isPlace_4 rfl ?_
    refine y_aload_n C dX3_isPlace_5 rfl ?_
    refine gR_X3_rooms C hB hR dX3_isPlace_6 (by decide +kernel) (by decide +kernel) ?_
    refine y_icmp_gt (t := 16) C dX3_isPlace_9 (by decide) (fun c9 => ?_) (fun c9 => ?_)
    · -- t
      refine y_iconst (v := 0) C dX3_isPlace_16 (by decide) ?_
      exact y_zret C rfl dX3_isPlace_17 (by first | exact Or.inl rfl | exact Or.inr rfl) (⟨by simp only [mPlacI, Int32.lt_iff_toInt_lt, Int32.le_iff_toInt_le] at *; (repeat' split) <;> simp_all <;> omega, rfl, rfl⟩)
    · -- f
      refine y_iconst (v := 1) C dX3_isPlace_12 (by decide) ?_
      refine y_goto (t := 17) C dX3_isPlace_13 (by decide) ?_
      exact y_zret C rfl dX3_isPlace_17 (by first | exact Or.inl rfl | exact Or.inr rfl) (⟨by simp only [mPlacI, Int32.lt_iff_toInt_lt, Int32.le_iff_toInt_le] at *; (repeat' split) <;> simp_all <;> omega, rfl, rfl⟩)
set_option maxHeartbeats 4000000 in
set_option maxRecDepth 100000 in
theorem e_X3_smokeIn {B : Nat} (hB : isW B) {r : Rw} (σ : xS) (τ : xT) (hR : Rel σ B r) {R ns nr ne t tl : Nat} (I : Inv r R ns nr ne t tl) (i : Nat) (hi : i < R) : Xi mX3_smokeIn [.ref (B + 1), .int (nI i)] σ τ (fun o σ1 τ1 => o = (r (20 + i)) ∧ σ = σ1 ∧ τ = τ1) := by
  refine Xi_mk (L := [some (.ref (B + 1)), some (.int (nI i))]) (by decide) rfl (Nat.le_of_ble_eq_true rfl) rfl (fun x C => ?_)
  refine y_iload_n C dX3_smokeIn_0 rfl ?_
  refine y_if_lt (t := 21) C dX3_smokeIn_1 (by decide) (fun c1 => absurd c1 (nI_pos (by have := I.1.1.2.2; omega))) (fun c1 => ?_)
  refine y_iload_n C dX3_smokeIn_4 rfl ?_
  refine y_aload_n C dX3_smokeIn_5 rfl ?_
  refine gR_X3_rooms C hB hR dX3_smokeIn_6 (by decide +kernel) (by decide +kernel) ?_
  refine y_icmp_ge (t := 21) C dX3_smokeIn_9 (by decide) (fun c9 => absurd c9 (Int32.not_le.mpr (by rw [I.1.1.1]; exact nI_lt hi (by have := I.1.1.2.2; omega)))) (fun c9 => ?_)
  refine y_aload_n C dX3_smokeIn_12 rfl ?_
  refine g_X3_smoke C hB dX3_smokeIn_13 (by decide +kernel) (by decide +kernel) ?_
  refine y_iload_n C dX3_smokeIn_16 rfl ?_
  have h4 := I.1.1.2.2
  refine aR C hB hR (20 + i) 2 i 4 (pl_lo20 _ (by omega)) (lv_l (by omega) (by omega)) (by decide) rfl (by decide) rfl (by omega) dX3_smokeIn_17 ?_
  refine y_goto (t := 22) C dX3_smokeIn_18 (by decide) ?_
  exact y_iret C rfl dX3_smokeIn_22 (⟨rfl, rfl, rfl⟩)
