theorem pl_lo24 : ∀ i, i < 4 → pl (24 + i) = (14, i) := by decide +kernel
theorem pl_lo28 : ∀ i, i < 4 → pl (28 + i) = (15, i) := by decide +kernel
theorem pl_lo20 : ∀ i, i < 4 → pl (20 + i) = (2, i) := by decide +kernel
theorem pl_lo13 : ∀ i, i < 6 → pl (13 + i) = (26, i) := by decide +kernel
set_option maxHeartbeats 4000000 in
set_option maxRecDepth 100000 in
theorem e_X2_strength {B : Nat} (hB : isW B) {r : Rw} (σ : xS) (τ : xT) (hR : Rel σ B r) : Xi mX2_strength [.ref (B + 4)] σ τ (fun v σ1 τ1 => v = mStr r ∧ σ1 = σ ∧ τ1 = τ) := by
  refine Xi_mk (L := [some (.ref (B + 4))]) (by decide) rfl (Nat.le_of_ble_eq_true rfl) rfl (fun x C => ?_)
  refine y_aload_n C dX2_strength_0 rfl ?_
  refine gR_X2_fuel C hB hR dX2_strength_1 (by decide +kernel) (by decide +kernel) ?_
  refine y_if_ne (t := 11) C dX2_strength_4 (by decide) (fun c4 => ?_) (fun c4 => ?_)
  · -- t
    refine y_iconst (v := 1) C dX2_strength_11 (by decide) ?_
    refine y_aload_n C dX2_strength_12 rfl ?_
    refine gR_X2_fuel C hB hR dX2_strength_13 (by decide +kernel) (by decide +kernel) ?_
    refine y_bipush (v := 25) C dX2_strength_16 (by decide) ?_
    refine y_idiv C dX2_strength_18 (by decide) ?_
    refine y_iadd C dX2_strength_19 ?_
    exact y_iret C rfl dX2_strength_20 (⟨by simp only [mStr]; first | rw [if_neg (by assumption)] | rw [if_pos (Decidable.not_not.mp (by assumption))], rfl, rfl⟩)
  · -- f
    refine y_iconst (v := 0) C dX2_strength_7 (by decide) ?_
    refine y_goto (t := 20) C dX2_strength_8 (by decide) ?_
    exact y_iret C rfl dX2_strength_20 (⟨by simp only [mStr]; first | rw [if_neg (by assumption)] | rw [if_pos (Decidable.not_not.mp (by assumption))], rfl, rfl⟩)
set_option maxHeartbeats 4000000 in
set_option maxRecDepth 100000 in
theorem e_X2_draft {B : Nat} (hB : isW B) {r : Rw} (σ : xS) (τ : xT) (hR : Rel σ B r) : Xi mX2_draft [.ref (B + 4)] σ τ (fun v σ1 τ1 => v = mDra r ∧ σ1 = σ ∧ τ1 = τ) := by
  refine Xi_mk (L := [some (.ref (B + 4)), none]) (by decide) rfl (Nat.le_of_ble_eq_true rfl) rfl (fun x C => ?_)
  refine y_aload_n C dX2_draft_0 rfl ?_
  refine gR_X2_warmth C hB hR dX2_draft_1 (by decide +kernel) (by decide +kernel) ?_
  refine y_aload_n C dX2_draft_4 rfl ?_
  refine gR_X2_opening C hB hR dX2_draft_5 (by decide +kernel) (by decide +kernel) ?_
  refine y_imul C dX2_draft_8 ?_
  refine y_bipush (v := 8) C dX2_draft_9 (by decide) ?_
  refine y_idiv C dX2_draft_11 (by decide) ?_
  refine y_aload_n C dX2_draft_12 rfl ?_
  refine gR_X2_wind C hB hR dX2_draft_13 (by decide +kernel) (by decide +kernel) ?_
  refine y_isub C dX2_draft_16 ?_
  refine y_istore_n C dX2_draft_17 (L' := [_, _]) (Nat.lt_of_lt_of_le (by decide : (1 : Nat) < 2) (Nat.le_refl _)) rfl ?_
  refine y_iload_n C dX2_draft_18 rfl ?_
  refine y_if_ge (t := 26) C dX2_draft_19 (by decide) (fun c19 => ?_) (fun c19 => ?_)
  · -- t
    refine y_iload_n C dX2_draft_26 rfl ?_
    exact y_iret C rfl dX2_draft_27 (⟨by simp only [mDra]; first | rw [if_neg (Int32.not_lt.mpr (by assumption))] | rw [if_pos (Int32.not_le.mp (by assumption))], rfl, rfl⟩)
  · -- f
    refine y_iconst (v := 0) C dX2_draft_22 (by decide) ?_
    refine y_goto (t := 27) C dX2_draft_23 (by decide) ?_
    exact y_iret C rfl dX2_draft_27 (⟨by simp only [mDra]; first | rw [if_neg (Int32.not_lt.mpr (by assumption))] | rw [if_pos (Int32.not_le.mp (by assumption))], rfl, rfl⟩)
set_option maxHeartbeats 4000000 in
set_option maxRecDepth 100000 in
theorem e_X2_feed {B : Nat} (hB : isW B) {r : Rw} (σ : xS) (τ : xT) (hR : Rel σ B r) (u : Int32) : Xv mX2_feed [.ref (B + 4), .int u] σ τ (fun σ1 τ1 => Rel σ1 B (upd r 8 (if 200 < r 8 + u then 200 else r 8 + u)) ∧ Fr (wS B) σ σ1 ∧ τ1 = τ) := by
  refine Xv_mk (L := [some (.ref (B + 4)), some (.int u)]) (by decide) rfl (Nat.le_of_ble_eq_true rfl) rfl (fun x C => ?_)
  refine y_aload_n C dX2_feed_0 rfl ?_
  refine y_aload_n C dX2_feed_1 rfl ?_
  refine gR_X2_fuel C hB hR dX2_feed_2 (by decide +kernel) (by decide +kernel) ?_
  refine y_iload_n C dX2_feed_5 rfl ?_
  refine y_iadd C dX2_feed_6 ?_
  refine y_sipush (v := 200) C dX2_feed_7 (by decide) ?_
  refine y_mmin C dX2_feed_10 (by decide +kernel) (by decide +kernel) (by decide +kernel) (by decide +kernel) rfl (Nat.le_of_ble_eq_true rfl) (Nat.le_of_ble_eq_true rfl) ⟨Nat.zero_le _, Nat.zero_le _⟩ ?_
  refine pR_X2_fuel C hB hR dX2_feed_13 (by decide +kernel) (by decide +kernel) (fun σ1 hR1 hF1 => ?_)
  exact y_vret C rfl dX2_feed_16 (⟨hR1, hF1, rfl⟩)
set_option maxHeartbeats 4000000 in
set_option maxRecDepth 100000 in
theorem e_X0_soundsIn {B : Nat} (hB : isW B) {r : Rw} (σ : xS) (τ : xT) (hR : Rel σ B r) (i : Nat) (hi : i < 4) : Xi mX0_soundsIn [.ref (B + 13), .int (nI i)] σ τ (fun v σ1 τ1 => v = bI (0 < r (24 + i) ∧ r (28 + i) = 0) ∧ σ1 = σ ∧ τ1 = τ) := by
  refine Xi_mk (L := [some (.ref (B + 13)), some (.int (nI i))]) (by decide) rfl (Nat.le_of_ble_eq_true rfl) rfl (fun x C => ?_)
  refine y_aload_n C dX0_soundsIn_0 rfl ?_
  refine g_X0_rest C hB dX0_soundsIn_1 (by decide +kernel) (by decide +kernel) ?_
  refine y_iload_n C dX0_soundsIn_4 rfl ?_
  refine aR C hB hR (24 + i) 14 i 4 (pl_lo24 i hi) (lv_l (by omega) (by omega)) (by decide) rfl (by decide) rfl hi dX0_soundsIn_5 ?_
  refine y_if_le (t := 22) C dX0_soundsIn_6 (by decide) (fun c6 => ?_) (fun c6 => ?_)
  · -- t
    refine y_iconst (v := 0) C dX0_soundsIn_22 (by decide) ?_
    exact y_zret C rfl dX0_soundsIn_23 (by first | exact Or.inl rfl | exact Or.inr rfl) (⟨by first | exact bI_t ⟨Int32.not_le.mp (by assumption), Decidable.not_not.mp (by assumption)⟩ | exact bI_f (fun q => (Int32.not_le.mpr q.1) (by assumption)) | exact bI_f (fun q => (by assumption) q.2), rfl, rfl⟩)
  · -- f
    refine y_aload_n C dX0_soundsIn_9 rfl ?_
    refine g_X0_muting C hB dX0_soundsIn_10 (by decide +kernel) (by decide +kernel) ?_
    refine y_iload_n C dX0_soundsIn_13 rfl ?_
    refine aR C hB hR (28 + i) 15 i 4 (pl_lo28 i hi) (lv_l (by omega) (by omega)) (by decide) rfl (by decide) rfl hi dX0_soundsIn_14 ?_
    refine y_if_ne (t := 22) C dX0_soundsIn_15 (by decide) (fun c15 => ?_) (fun c15 => ?_)
    · -- t
      refine y_iconst (v := 0) C dX0_soundsIn_22 (by decide) ?_
      exact y_zret C rfl dX0_soundsIn_23 (by first | exact Or.inl rfl | exact Or.inr rfl) (⟨by first | exact bI_t ⟨Int32.not_le.mp (by assumption), Decidable.not_not.mp (by assumption)⟩ | exact bI_f (fun q => (Int32.not_le.mpr q.1) (by assumption)) | exact bI_f (fun q => (by assumption) q.2), rfl, rfl⟩)
    · -- f
      refine y_iconst (v := 1) C dX0_soundsIn_18 (by decide) ?_
      refine y_goto (t := 23) C dX0_soundsIn_19 (by decide) ?_
      exact y_zret C rfl dX0_soundsIn_23 (by first | exact Or.inl rfl | exact Or.inr rfl) (⟨by first | exact bI_t ⟨Int32.not_le.mp (by assumption), Decidable.not_not.mp (by assumption)⟩ | exact bI_f (fun q => (Int32.not_le.mpr q.1) (by assumption)) | exact bI_f (fun q => (by assumption) q.2), rfl, rfl⟩)
