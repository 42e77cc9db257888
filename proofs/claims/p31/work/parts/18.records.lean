theorem isW_rec {j : Nat} (h : j < 4) : isW (57 + 27 * j) := by
  unfold isW
  omega
set_option maxHeartbeats 4000000 in
set_option maxRecDepth 100000 in
theorem e_X4_row (σ : xS) (τ : xT) (o : Nat) (ho : o < 4) (eo : σ 55 1 = nI o) (a : Nat) (ha : a ≤ 4) : Xr mX4_row [.ref 55, .int (nI a)] σ τ (fun b σ1 τ1 => b = 57 + 27 * ((o + a) % 4) ∧ σ = σ1 ∧ τ = τ1) := by
  refine Xr_mk (L := [some (.ref 55), some (.int (nI a))]) (by decide) rfl (Nat.le_of_ble_eq_true rfl) rfl (fun x C => ?_)
  refine y_aload_n C dX4_row_0 rfl ?_
  refine g_X4_rows C dX4_row_1 (by decide +kernel) (by decide +kernel) ?_
  refine y_aload_n C dX4_row_4 rfl ?_
  refine g_X4_oldest C dX4_row_5 (by decide +kernel) (by decide +kernel) ?_
  refine y_topE (nI o) eo ?_
  refine y_iload_n C dX4_row_8 rfl ?_
  refine y_iadd C dX4_row_9 ?_
  refine y_iconst (v := 4) C dX4_row_10 (by decide) ?_
  refine y_irem C dX4_row_11 (by decide) ?_
  refine y_topE (nI ((o + a) % 4)) (by rw [nI_add]; exact pk_rem (a := o + a) (d := 4) (by omega) (by decide) (by decide)) ?_
  refine y_aa (a := 56) (N := 4) C ((o + a) % 4) dX4_row_12 (by decide) rfl (by decide) rfl (Nat.mod_lt _ (by decide)) ?_
  exact y_aret C rfl dX4_row_13 (⟨rfl, rfl, rfl⟩)
set_option maxHeartbeats 4000000 in
set_option maxRecDepth 100000 in
theorem e_X4_keep (σ : xS) (τ : xT) (o : Nat) (ho : o < 4) (eo : σ 55 1 = nI o) (kp : Nat) (hk : kp ≤ 4) (ek : σ 55 2 = nI kp) {r : Rw} (hR : Rel σ 1 r) (h3 : r 3 = 0 ∨ r 3 = 1) : Xv mX4_keep [.ref 55, .ref 1] σ τ (fun σ1 τ1 => Rel σ1 (57 + 27 * ((o + kp) % 4)) r ∧ σ1 55 2 = nI (if kp = 4 then 4 else kp + 1) ∧ σ1 55 1 = nI (if kp = 4 then (o + 1) % 4 else o) ∧ Fr (fun a => a = 55 ∨ wS (57 + 27 * ((o + kp) % 4)) a) σ σ1 ∧ τ = τ1) := by
  have hm : (o + kp) % 4 < 4 := Nat.mod_lt _ (by decide)
  refine Xv_mk (L := [some (.ref 55), some (.ref 1), none]) (by decide) rfl (Nat.le_of_ble_eq_true rfl) rfl (fun x C => ?_)
  refine y_aload_n C dX4_keep_0 rfl ?_
  refine y_aload_n C dX4_keep_1 rfl ?_
  refine g_X4_kept C dX4_keep_2 (by decide +kernel) (by decide +kernel) ?_
  refine y_topE (nI kp) ek ?_
  refine y_callVr C (e_X4_row _ _ o ho eo kp hk) dX4_keep_5 rfl gX4_keep_X4_row rfl (is_X4) ⟨rfl, qX4_row⟩ ⟨rfl, rfl⟩ ⟨Nat.le_of_ble_eq_true rfl, Nat.le_of_ble_eq_true rfl⟩ rfl (Nat.le_of_ble_eq_true rfl) ⟨Nat.zero_le _, Nat.zero_le _⟩ (fun v1 σ1 τ1 hq => ?_)
  obtain ⟨rfl, rfl, rfl⟩ := hq
  refine y_astore_n C dX4_keep_8 (L' := [_, _, _]) (Nat.lt_of_lt_of_le (by decide : (2 : Nat) < 3) (Nat.le_refl _)) rfl ?_
  refine y_aload_n C dX4_keep_9 rfl ?_
  refine y_ifnull C dX4_keep_10 ?_
  refine y_aload_n C dX4_keep_13 rfl ?_
  refine y_aload_n C dX4_keep_14 rfl ?_
  refine y_callVv C (e_copy (isW_rec hm) (Or.inl rfl) (by omega) _ _ hR h3) dX4_keep_15 rfl gX4_keep_X7_copyFrom rfl (is_X7 (isW_rec hm)) ⟨rfl, qX7_copyFrom⟩ ⟨rfl, rfl⟩ ⟨Nat.le_of_ble_eq_true rfl, Nat.le_of_ble_eq_true rfl⟩ rfl (Nat.le_of_ble_eq_true rfl) ⟨Nat.zero_le _, Nat.zero_le _⟩ (fun σ1 τ1 hq => ?_)
  obtain ⟨hR1, hF1, rfl⟩ := hq
  have e55 : σ1 55 = σ 55 := hF1 55 (by unfold wS; omega)
  refine y_aload_n C dX4_keep_18 rfl ?_
  refine g_X4_kept C dX4_keep_19 (by decide +kernel) (by decide +kernel) ?_
  refine y_topE (nI kp) (by rw [e55]; exact ek) ?_
  refine y_iconst (v := 4) C dX4_keep_22 (by decide) ?_
  refine y_icmp_ge (t := 39) C dX4_keep_23 (by decide) (fun c23 => ?_) (fun c23 => ?_)
  · -- t
    refine y_aload_n C dX4_keep_39 rfl ?_
    refine y_aload_n C dX4_keep_40 rfl ?_
    refine g_X4_oldest C dX4_keep_41 (by decide +kernel) (by decide +kernel) ?_
    refine y_topE (nI o) (by rw [e55]; exact eo) ?_
    refine y_iconst (v := 1) C dX4_keep_44 (by decide) ?_
    refine y_iadd C dX4_keep_45 ?_
    refine y_iconst (v := 4) C dX4_keep_46 (by decide) ?_
    refine y_irem C dX4_keep_47 (by decide) ?_
    refine y_topE (nI ((o + 1) % 4)) (by rw [nI_1]; exact pk_rem (a := o + 1) (d := 4) (by omega) (by decide) (by decide)) ?_
    refine p_X4_oldest C dX4_keep_48 (by decide +kernel) (by decide +kernel) ?_
    exact y_vret C rfl dX4_keep_51 (⟨Rel.kept (S := fun a => a = 55) hR1 (Fr.ups rfl) (fun a h1 h2 => by show ¬ a = 55; omega), by
        first
          | (have hk4 : ¬ kp = 4 := fun q => c23 (by rw [q]; exact Int32.le_refl _)
             rw [if_neg hk4, ups_eq]; simp [upd]; done)
          | (have hk4 : kp = 4 := by
               have := (nI_leI (a := 4) (b := kp) (by omega) (by omega)).mp c23
               omega
             rw [if_pos hk4, ups_eq]; simp [upd, e55, ek, hk4]; done), by
        first
          | (have hk4 : ¬ kp = 4 := fun q => c23 (by rw [q]; exact Int32.le_refl _)
             rw [if_neg hk4, ups_eq]; simp [upd, e55, eo]; done)
          | (have hk4 : kp = 4 := by
               have := (nI_leI (a := 4) (b := kp) (by omega) (by omega)).mp c23
               omega
             rw [if_pos hk4, ups_eq]; simp [upd]; done), (hF1.mono (fun a h => Or.inr h)).trans (Fr.ups (Or.inl rfl)), rfl⟩)
  · -- f
    refine y_aload_n C dX4_keep_26 rfl ?_
    refine y_dup C dX4_keep_27 rfl ?_
    refine g_X4_kept C dX4_keep_28 (by decide +kernel) (by decide +kernel) ?_
    refine y_topE (nI kp) (by rw [e55]; exact ek) ?_
    refine y_iconst (v := 1) C dX4_keep_31 (by decide) ?_
    refine y_iadd C dX4_keep_32 ?_
    refine y_topE (nI (kp + 1)) (nI_1 kp) ?_
    refine p_X4_kept C dX4_keep_33 (by decide +kernel) (by decide +kernel) ?_
    refine y_goto (t := 51) C dX4_keep_36 (by decide) ?_
    exact y_vret C rfl dX4_keep_51 (⟨Rel.kept (S := fun a => a = 55) hR1 (Fr.ups rfl) (fun a h1 h2 => by show ¬ a = 55; omega), by
        first
          | (have hk4 : ¬ kp = 4 := fun q => c23 (by rw [q]; exact Int32.le_refl _)
             rw [if_neg hk4, ups_eq]; simp [upd]; done)
          | (have hk4 : kp = 4 := by
               have := (nI_leI (a := 4) (b := kp) (by omega) (by omega)).mp c23
               omega
             rw [if_pos hk4, ups_eq]; simp [upd, e55, ek, hk4]; done), by
        first
          | (have hk4 : ¬ kp = 4 := fun q => c23 (by rw [q]; exact Int32.le_refl _)
             rw [if_neg hk4, ups_eq]; simp [upd, e55, eo]; done)
          | (have hk4 : kp = 4 := by
               have := (nI_leI (a := 4) (b := kp) (by omega) (by omega)).mp c23
               omega
             rw [if_pos hk4, ups_eq]; simp [upd]; done), (hF1.mono (fun a h => Or.inr h)).trans (Fr.ups (Or.inl rfl)), rfl⟩)
set_option maxHeartbeats 4000000 in
set_option maxRecDepth 100000 in
theorem e_X4_giveBack (σ : xS) (τ : xT) (o : Nat) (ho : o < 4) (eo : σ 55 1 = nI o) (kp : Nat) (hk : kp ≤ 4) (ek : σ 55 2 = nI kp) (hk1 : 1 ≤ kp) {r : Rw} (hR : Rel σ (57 + 27 * ((o + (kp - 1)) % 4)) r) (h3 : r 3 = 0 ∨ r 3 = 1) : Xv mX4_giveBack [.ref 55, .ref 1] σ τ (fun σ1 τ1 => Rel σ1 1 r ∧ σ1 55 2 = nI (kp - 1) ∧ σ1 55 1 = nI o ∧ Fr (fun a => a = 55 ∨ wS 1 a) σ σ1 ∧ τ = τ1) := by
  have hm : (o + (kp - 1)) % 4 < 4 := Nat.mod_lt _ (by decide)
  refine Xv_mk (L := [some (.ref 55), some (.ref 1), none]) (by decide) rfl (Nat.le_of_ble_eq_true rfl) rfl (fun x C => ?_)
  refine y_aload_n C dX4_giveBack_0 rfl ?_
  refine g_X4_kept C dX4_giveBack_1 (by decide +kernel) (by decide +kernel) ?_
  refine y_topE (nI kp) ek ?_
  refine y_if_ne (t := 8) C dX4_giveBack_4 (by decide) (fun c4 => ?_) (fun c4 => absurd c4 (nI_ne0 (by omega) (by omega)))
  refine y_aload_n C dX4_giveBack_8 rfl ?_
  refine y_dup C dX4_giveBack_9 rfl ?_
  refine g_X4_kept C dX4_giveBack_10 (by decide +kernel) (by decide +kernel) ?_
  refine y_topE (nI kp) ek ?_
  refine y_iconst (v := 1) C dX4_giveBack_13 (by decide) ?_
  refine y_isub C dX4_giveBack_14 ?_
  refine y_topE (nI (kp - 1)) (by rw [show (1 : Int32) = nI 1 from rfl, pk_sub hk1]) ?_
  refine p_X4_kept C dX4_giveBack_15 (by decide +kernel) (by decide +kernel) ?_
  refine y_aload_n C dX4_giveBack_18 rfl ?_
  refine y_aload_n C dX4_giveBack_19 rfl ?_
  refine g_X4_kept C dX4_giveBack_20 (by decide +kernel) (by decide +kernel) ?_
  refine y_topE (nI (kp - 1)) (by rw [ups_eq]; simp [upd]) ?_
  refine y_callVr C (e_X4_row _ _ o ho (by rw [ups_eq]; simp [upd, eo]) (kp - 1) (by omega)) dX4_giveBack_23 rfl gX4_giveBack_X4_row rfl (is_X4) ⟨rfl, qX4_row⟩ ⟨rfl, rfl⟩ ⟨Nat.le_of_ble_eq_true rfl, Nat.le_of_ble_eq_true rfl⟩ rfl (Nat.le_of_ble_eq_true rfl) ⟨Nat.zero_le _, Nat.zero_le _⟩ (fun v1 σ1 τ1 hq => ?_)
  obtain ⟨rfl, rfl, rfl⟩ := hq
  refine y_astore_n C dX4_giveBack_26 (L' := [_, _, _]) (Nat.lt_of_lt_of_le (by decide : (2 : Nat) < 3) (Nat.le_refl _)) rfl ?_
  refine y_aload_n C dX4_giveBack_27 rfl ?_
  refine y_ifnull C dX4_giveBack_28 ?_
  refine y_aload_n C dX4_giveBack_31 rfl ?_
  refine y_aload_n C dX4_giveBack_32 rfl ?_
  refine y_callVv C (e_copy (Or.inl rfl) (isW_rec hm) (by omega) _ _ (Rel.kept (S := fun a => a = 55) hR (Fr.ups rfl) (fun a h1 h2 => by show ¬ a = 55; omega)) h3) dX4_giveBack_33 rfl gX4_giveBack_X7_copyFrom rfl (is_X7 (Or.inl rfl)) ⟨rfl, qX7_copyFrom⟩ ⟨rfl, rfl⟩ ⟨Nat.le_of_ble_eq_true rfl, Nat.le_of_ble_eq_true rfl⟩ rfl (Nat.le_of_ble_eq_true rfl) ⟨Nat.zero_le _, Nat.zero_le _⟩ (fun σ1 τ1 hq => ?_)
  obtain ⟨hR1, hF1, rfl⟩ := hq
  have e55 := hF1 55 (by unfold wS; omega)
  exact y_vret C rfl dX4_giveBack_36 (⟨hR1, by rw [e55, ups_eq]; simp [upd], by rw [e55, ups_eq]; simp [upd, eo], (Fr.ups (Or.inl rfl)).trans (hF1.mono (fun a h => Or.inr h)), rfl⟩)
set_option maxHeartbeats 4000000 in
set_option maxRecDepth 100000 in
theorem l_X3_startAnew {x : xC} (C : Cx x mX3_startAnew) {B : Nat} (hB : isW B) (σ : xS) (τ : xT) (w : Int32) {Z : State → Prop} (kx : ∀ σ1 : xS, (∀ i, i < 4 → σ1 (B + 2) i = 0) → Fr (fun a => a = B + 2) σ σ1 → Y x 34 [some (.ref (B + 1)), some (.int w), some (.int (nI 4))] [] σ1 τ 0 0 Z) : ∀ n k : Nat, k + n = 4 → ∀ σ1 : xS, (∀ i, i < k → σ1 (B + 2) i = 0) → Fr (fun a => a = B + 2) σ σ1 → Y x 12 [some (.ref (B + 1)), some (.int w), some (.int (nI k))] [] σ1 τ 0 0 Z := by
  intro n
  induction n with
  | zero =>
    intro k hk
    intro σ1 h1 hF1
    refine y_iload_n C dX3_startAnew_12 rfl ?_
    refine y_aload_n C dX3_startAnew_13 rfl ?_
    refine g_X3_smoke C hB dX3_startAnew_14 (by decide +kernel) (by decide +kernel) ?_
    refine y_alen (kd := 0) (N := 4) C dX3_startAnew_17 (by have := isW_le hB; omega) (xSH_W hB 2 (by decide)) ?_
    refine y_icmp_ge (t := 34) C dX3_startAnew_18 (by decide) (fun c18 => ?_) (fun c18 => absurd (by rw [show k = 4 by omega]; exact Int32.le_refl _) c18)
    obtain rfl : k = 4 := by omega
    exact kx σ1 h1 hF1
  | succ n ih =>
    intro k hk
    intro σ1 h1 hF1
    refine y_iload_n C dX3_startAnew_12 rfl ?_
    refine y_aload_n C dX3_startAnew_13 rfl ?_
    refine g_X3_smoke C hB dX3_startAnew_14 (by decide +kernel) (by decide +kernel) ?_
    refine y_alen (kd := 0) (N := 4) C dX3_startAnew_17 (by have := isW_le hB; omega) (xSH_W hB 2 (by decide)) ?_
    refine y_icmp_ge (t := 34) C dX3_startAnew_18 (by decide) (fun c18 => absurd c18 (nI_ge (a := k) (b := 4) (by omega) (by decide))) (fun c18 => ?_)
    refine y_aload_n C dX3_startAnew_21 rfl ?_
    refine g_X3_smoke C hB dX3_startAnew_22 (by decide +kernel) (by decide +kernel) ?_
    refine y_iload_n C dX3_startAnew_25 rfl ?_
    refine y_iconst (v := 0) C dX3_startAnew_26 (by decide) ?_
    refine y_is (a := B + 2) (N := 4) C k dX3_startAnew_27 (by have := isW_le hB; omega) (xSH_W hB 2 (by decide)) (by decide) rfl (by omega) ?_
    refine y_iinc C dX3_startAnew_28 (L' := [_, _, _]) rfl (nI_1 k) rfl ?_
    refine y_goto (t := 12) C dX3_startAnew_31 (by decide) ?_
    refine ih (k + 1) (by omega) _ (fun i hi => ?_) (hF1.trans (Fr.ups rfl))
    rw [ups_eq]
    by_cases e : i = k
    · simp [upd, e]
    · simp only [upd, if_neg e]
      exact h1 i (by omega)
set_option maxHeartbeats 4000000 in
set_option maxRecDepth 100000 in
theorem e_X3_startAnew {B : Nat} (hB : isW B) (σ : xS) (τ : xT) (w : Int32) : Xv mX3_startAnew [.ref (B + 1), .int w] σ τ (fun σ1 τ1 => (σ1 (B + 1) 0 = w ∧ σ1 (B + 1) 2 = 0 ∧ ∀ i, i < 4 → σ1 (B + 2) i = 0) ∧ Fr (fun a => B + 1 ≤ a ∧ a ≤ B + 2) σ σ1 ∧ τ = τ1) := by
  refine Xv_mk (L := [some (.ref (B + 1)), some (.int w), none]) (by decide) rfl (Nat.le_of_ble_eq_true rfl) rfl (fun x C => ?_)
  refine y_aload_n C dX3_startAnew_0 rfl ?_
  refine y_iload_n C dX3_startAnew_1 rfl ?_
  refine p_X3_rooms C hB dX3_startAnew_2 (by decide +kernel) (by decide +kernel) ?_
  refine y_aload_n C dX3_startAnew_5 rfl ?_
  refine y_iconst (v := 0) C dX3_startAnew_6 (by decide) ?_
  refine p_X3_openDoors C hB dX3_startAnew_7 (by decide +kernel) (by decide +kernel) ?_
  refine y_iconst (v := 0) C dX3_startAnew_10 (by decide) ?_
  refine y_istore_n C dX3_startAnew_11 (L' := [_, _, _]) (Nat.lt_of_lt_of_le (by decide : (2 : Nat) < 3) (Nat.le_refl _)) rfl ?_
  refine l_X3_startAnew C hB _ τ w (fun σ1 h1 hF1 => ?_) _ 0 (Nat.zero_add _) _ (fun i hi => absurd hi (Nat.not_lt_zero _)) Fr.rf
  exact y_vret C rfl dX3_startAnew_34 (⟨⟨by rw [hF1 _ (by omega)]; simp [ups, upd], by rw [hF1 _ (by omega)]; simp [ups, upd], h1⟩, fun a ha => by
      have ha : ¬ (B + 1 ≤ a ∧ a ≤ B + 2) := ha
      rw [hF1 _ (show ¬ a = _ by omega)]
      simp [ups, show ¬ a = B + 1 by omega], rfl⟩)
set_option maxHeartbeats 4000000 in
set_option maxRecDepth 100000 in
theorem e_X2_startAnew {B : Nat} (hB : isW B) (σ : xS) (τ : xT) : Xv mX2_startAnew [.ref (B + 4)] σ τ (fun σ1 τ1 => (σ1 (B + 4) 0 = 0 ∧ σ1 (B + 4) 1 = 0 ∧ σ1 (B + 4) 2 = 0 ∧ σ1 (B + 4) 3 = 8 ∧ σ1 (B + 4) 4 = 8 ∧ σ1 (B + 4) 5 = 0) ∧ Fr (fun a => a = B + 4) σ σ1 ∧ τ = τ1) := by
  refine Xv_mk (L := [some (.ref (B + 4))]) (by decide) rfl (Nat.le_of_ble_eq_true rfl) rfl (fun x C => ?_)
  refine y_aload_n C dX2_startAnew_0 rfl ?_
  refine y_iconst (v := 0) C dX2_startAnew_1 (by decide) ?_
  refine p_X2_fuel C hB dX2_startAnew_2 (by decide +kernel) (by decide +kernel) ?_
  refine y_aload_n C dX2_startAnew_5 rfl ?_
  refine y_iconst (v := 0) C dX2_startAnew_6 (by decide) ?_
  refine p_X2_warmth C hB dX2_startAnew_7 (by decide +kernel) (by decide +kernel) ?_
  refine y_aload_n C dX2_startAnew_10 rfl ?_
  refine y_iconst (v := 0) C dX2_startAnew_11 (by decide) ?_
  refine p_X2_wind C hB dX2_startAnew_12 (by decide +kernel) (by decide +kernel) ?_
  refine y_aload_n C dX2_startAnew_15 rfl ?_
  refine y_bipush (v := 8) C dX2_startAnew_16 (by decide) ?_
  refine p_X2_opening C hB dX2_startAnew_18 (by decide +kernel) (by decide +kernel) ?_
  refine y_aload_n C dX2_startAnew_21 rfl ?_
  refine y_bipush (v := 8) C dX2_startAnew_22 (by decide) ?_
  refine p_X2_target C hB dX2_startAnew_24 (by decide +kernel) (by decide +kernel) ?_
  refine y_aload_n C dX2_startAnew_27 rfl ?_
  refine y_iconst (v := 0) C dX2_startAnew_28 (by decide) ?_
  refine p_X2_jammed C hB (Or.inl rfl) dX2_startAnew_29 (by decide +kernel) (by decide +kernel) ?_
  exact y_vret C rfl dX2_startAnew_32 (⟨by simp [ups, upd], fun a ha => by
      have ha : ¬ a = B + 4 := ha
      simp [ups, ha], rfl⟩)
set_option maxHeartbeats 4000000 in
set_option maxRecDepth 100000 in
theorem e_X6_clear {B : Nat} (hB : isW B) (σ : xS) (τ : xT) : Xv mX6_clear [.ref (B + 5)] σ τ (fun σ1 τ1 => σ1 (B + 5) 0 = 0 ∧ Fr (fun a => a = B + 5) σ σ1 ∧ τ = τ1) := by
  refine Xv_mk (L := [some (.ref (B + 5))]) (by decide) rfl (Nat.le_of_ble_eq_true rfl) rfl (fun x C => ?_)
  refine y_aload_n C dX6_clear_0 rfl ?_
  refine y_iconst (v := 0) C dX6_clear_1 (by decide) ?_
  refine p_X6_count C hB dX6_clear_2 (by decide +kernel) (by decide +kernel) ?_
  exact y_vret C rfl dX6_clear_5 (⟨by simp [ups, upd], Fr.ups rfl, rfl⟩)
set_option maxHeartbeats 4000000 in
set_option maxRecDepth 100000 in
theorem e_X5_clear {B : Nat} (hB : isW B) (σ : xS) (τ : xT) : Xv mX5_clear [.ref (B + 16)] σ τ (fun σ1 τ1 => σ1 (B + 16) 0 = 0 ∧ Fr (fun a => a = B + 16) σ σ1 ∧ τ = τ1) := by
  refine Xv_mk (L := [some (.ref (B + 16))]) (by decide) rfl (Nat.le_of_ble_eq_true rfl) rfl (fun x C => ?_)
  refine y_aload_n C dX5_clear_0 rfl ?_
  refine y_iconst (v := 0) C dX5_clear_1 (by decide) ?_
  refine p_X5_count C hB dX5_clear_2 (by decide +kernel) (by decide +kernel) ?_
  exact y_vret C rfl dX5_clear_5 (⟨by simp [ups, upd], Fr.ups rfl, rfl⟩)
set_option maxHeartbeats 4000000 in
set_option maxRecDepth 100000 in
theorem e_X1_clear {B : Nat} (hB : isW B) (σ : xS) (τ : xT) : Xv mX1_clear [.ref (B + 21)] σ τ (fun σ1 τ1 => σ1 (B + 21) 0 = 0 ∧ Fr (fun a => a = B + 21) σ σ1 ∧ τ = τ1) := by
  refine Xv_mk (L := [some (.ref (B + 21))]) (by decide) rfl (Nat.le_of_ble_eq_true rfl) rfl (fun x C => ?_)
  refine y_aload_n C dX1_clear_0 rfl ?_
  refine y_iconst (v := 0) C dX1_clear_1 (by decide) ?_
  refine p_X1_count C hB dX1_clear_2 (by decide +kernel) (by decide +kernel) ?_
  exact y_vret C rfl dX1_clear_5 (⟨by simp [ups, upd], Fr.ups rfl, rfl⟩)
set_option maxHeartbeats 4000000 in
set_option maxRecDepth 100000 in
theorem l_X0_startAnew {x : xC} (C : Cx x mX0_startAnew) {B : Nat} (hB : isW B) (σ : xS) (τ : xT) {Z : State → Prop} (kx : ∀ σ1 : xS, (∀ i, i < 4 → σ1 (B + 14) i = 0 ∧ σ1 (B + 15) i = 0) → Fr (fun a => B + 14 ≤ a ∧ a ≤ B + 15) σ σ1 → Y x 37 [some (.ref (B + 13)), some (.int (nI 4))] [] σ1 τ 0 0 Z) : ∀ n k : Nat, k + n = 4 → ∀ σ1 : xS, (∀ i, i < k → σ1 (B + 14) i = 0 ∧ σ1 (B + 15) i = 0) → Fr (fun a => B + 14 ≤ a ∧ a ≤ B + 15) σ σ1 → Y x 12 [some (.ref (B + 13)), some (.int (nI k))] [] σ1 τ 0 0 Z := by
  intro n
  induction n with
  | zero =>
    intro k hk
    intro σ1 h1 hF1
    refine y_iload_n C dX0_startAnew_12 rfl ?_
    refine y_iconst (v := 4) C dX0_startAnew_13 (by decide) ?_
    refine y_icmp_ge (t := 37) C dX0_startAnew_14 (by decide) (fun c14 => ?_) (fun c14 => absurd (by rw [show k = 4 by omega]; exact Int32.le_refl _) c14)
    obtain rfl : k = 4 := by omega
    exact kx σ1 h1 hF1
  | succ n ih =>
    intro k hk
    intro σ1 h1 hF1
    refine y_iload_n C dX0_startAnew_12 rfl ?_
    refine y_iconst (v := 4) C dX0_startAnew_13 (by decide) ?_
    refine y_icmp_ge (t := 37) C dX0_startAnew_14 (by decide) (fun c14 => absurd c14 (nI_ge (a := k) (b := 4) (by omega) (by decide))) (fun c14 => ?_)
    refine y_aload_n C dX0_startAnew_17 rfl ?_
    refine g_X0_rest C hB dX0_startAnew_18 (by decide +kernel) (by decide +kernel) ?_
    refine y_iload_n C dX0_startAnew_21 rfl ?_
    refine y_iconst (v := 0) C dX0_startAnew_22 (by decide) ?_
    refine y_is (a := B + 14) (N := 4) C k dX0_startAnew_23 (by have := isW_le hB; omega) (xSH_W hB 14 (by decide)) (by decide) rfl (by omega) ?_
    refine y_aload_n C dX0_startAnew_24 rfl ?_
    refine g_X0_muting C hB dX0_startAnew_25 (by decide +kernel) (by decide +kernel) ?_
    refine y_iload_n C dX0_startAnew_28 rfl ?_
    refine y_iconst (v := 0) C dX0_startAnew_29 (by decide) ?_
    refine y_is (a := B + 15) (N := 4) C k dX0_startAnew_30 (by have := isW_le hB; omega) (xSH_W hB 15 (by decide)) (by decide) rfl (by omega) ?_
    refine y_iinc C dX0_startAnew_31 (L' := [_, _]) rfl (nI_1 k) rfl ?_
    refine y_goto (t := 12) C dX0_startAnew_34 (by decide) ?_
    refine ih (k + 1) (by omega) _ (fun i hi => ?_) (fun a ha => ?_)
    · by_cases e : i = k
      · simp [ups, upd, e]
      · have := h1 i (by omega)
        simp [ups, upd, e, this.1, this.2]
    · have ha : ¬ (B + 14 ≤ a ∧ a ≤ B + 15) := ha
      simp only [ups, if_neg (show ¬ a = B + 15 by omega), if_neg (show ¬ a = B + 14 by omega)]
      exact hF1 a ha
set_option maxHeartbeats 4000000 in
set_option maxRecDepth 100000 in
theorem e_X0_startAnew {B : Nat} (hB : isW B) (σ : xS) (τ : xT) : Xv mX0_startAnew [.ref (B + 13)] σ τ (fun σ1 τ1 => (σ1 (B + 13) 0 = 2 ∧ σ1 (B + 13) 1 = 3 ∧ ∀ i, i < 4 → σ1 (B + 14) i = 0 ∧ σ1 (B + 15) i = 0) ∧ Fr (fun a => B + 13 ≤ a ∧ a ≤ B + 15) σ σ1 ∧ τ = τ1) := by
  refine Xv_mk (L := [some (.ref (B + 13)), none]) (by decide) rfl (Nat.le_of_ble_eq_true rfl) rfl (fun x C => ?_)
  refine y_aload_n C dX0_startAnew_0 rfl ?_
  refine y_iconst (v := 2) C dX0_startAnew_1 (by decide) ?_
  refine p_X0_quorum C hB dX0_startAnew_2 (by decide +kernel) (by decide +kernel) ?_
  refine y_aload_n C dX0_startAnew_5 rfl ?_
  refine y_iconst (v := 3) C dX0_startAnew_6 (by decide) ?_
  refine p_X0_hold C hB dX0_startAnew_7 (by decide +kernel) (by decide +kernel) ?_
  refine y_iconst (v := 0) C dX0_startAnew_10 (by decide) ?_
  refine y_istore_n C dX0_startAnew_11 (L' := [_, _]) (Nat.lt_of_lt_of_le (by decide : (1 : Nat) < 2) (Nat.le_refl _)) rfl ?_
  refine l_X0_startAnew C hB _ τ (fun σ1 h1 hF1 => ?_) _ 0 (Nat.zero_add _) _ (fun i hi => absurd hi (Nat.not_lt_zero _)) Fr.rf
  exact y_vret C rfl dX0_startAnew_37 (⟨⟨by rw [hF1 _ (by omega)]; simp [ups, upd], by rw [hF1 _ (by omega)]; simp [ups, upd], h1⟩, fun a ha => by
      have ha : ¬ (B + 13 ≤ a ∧ a ≤ B + 15) := ha
      rw [hF1 _ (show ¬ (_ ∧ _) by omega)]
      simp [ups, show ¬ a = B + 13 by omega], rfl⟩)
set_option maxHeartbeats 4000000 in
set_option maxRecDepth 100000 in
theorem l_X7_startAnew {x : xC} (C : Cx x mX7_startAnew) {B : Nat} (hB : isW B) (σ : xS) (τ : xT) (w : Int32) {Z : State → Prop} (kx : ∀ σ1 : xS, (∀ i, i < 6 → σ1 (B + 26) i = 0) → Fr (fun a => a = B + 26) σ σ1 → Y x 69 [some (.ref B), some (.int w), some (.int (nI 6))] [] σ1 τ 0 0 Z) : ∀ n k : Nat, k + n = 6 → ∀ σ1 : xS, (∀ i, i < k → σ1 (B + 26) i = 0) → Fr (fun a => a = B + 26) σ σ1 → Y x 50 [some (.ref B), some (.int w), some (.int (nI k))] [] σ1 τ 0 0 Z := by
  intro n
  induction n with
  | zero =>
    intro k hk
    intro σ1 h1 hF1
    refine y_iload_n C dX7_startAnew_50 rfl ?_
    refine y_bipush (v := 6) C dX7_startAnew_51 (by decide) ?_
    refine y_icmp_ge (t := 69) C dX7_startAnew_53 (by decide) (fun c53 => ?_) (fun c53 => absurd (by rw [show k = 6 by omega]; exact Int32.le_refl _) c53)
    obtain rfl : k = 6 := by omega
    exact kx σ1 h1 hF1
  | succ n ih =>
    intro k hk
    intro σ1 h1 hF1
    refine y_iload_n C dX7_startAnew_50 rfl ?_
    refine y_bipush (v := 6) C dX7_startAnew_51 (by decide) ?_
    refine y_icmp_ge (t := 69) C dX7_startAnew_53 (by decide) (fun c53 => absurd c53 (nI_ge (a := k) (b := 6) (by omega) (by decide))) (fun c53 => ?_)
    refine y_aload_n C dX7_startAnew_56 rfl ?_
    refine g_X7_counts C hB dX7_startAnew_57 (by decide +kernel) (by decide +kernel) ?_
    refine y_iload_n C dX7_startAnew_60 rfl ?_
    refine y_iconst (v := 0) C dX7_startAnew_61 (by decide) ?_
    refine y_is (a := B + 26) (N := 6) C k dX7_startAnew_62 (by have := isW_le hB; omega) (xSH_W hB 26 (by decide)) (by decide) rfl (by omega) ?_
    refine y_iinc C dX7_startAnew_63 (L' := [_, _, _]) rfl (nI_1 k) rfl ?_
    refine y_goto (t := 50) C dX7_startAnew_66 (by decide) ?_
    refine ih (k + 1) (by omega) _ (fun i hi => ?_) (hF1.trans (Fr.ups rfl))
    rw [ups_eq]
    by_cases e : i = k
    · simp [upd, e]
    · simp only [upd, if_neg e]
      exact h1 i (by omega)
theorem nI_nlt0 (i : Nat) (h : i < 2 ^ 31) : ¬ nI i < 0 := nI_pos h
set_option maxHeartbeats 4000000 in
set_option maxRecDepth 100000 in
theorem e_X7_startAnew {B : Nat} (hB : isW B) (σ : xS) (τ : xT) (w : Int32) : Xv mX7_startAnew [.ref B, .int w] σ τ (fun σ1 τ1 => Rel σ1 B (mBeg w) ∧ Fr (wS B) σ σ1 ∧ τ = τ1) := by
  have hle := isW_le hB
  refine Xv_mk (L := [some (.ref B), some (.int w), none]) (by decide) rfl (Nat.le_of_ble_eq_true rfl) rfl (fun x C => ?_)
  refine y_aload_n C dX7_startAnew_0 rfl ?_
  refine y_iconst (v := 0) C dX7_startAnew_1 (by decide) ?_
  refine p_X7_minute C hB dX7_startAnew_2 (by decide +kernel) (by decide +kernel) ?_
  refine y_aload_n C dX7_startAnew_5 rfl ?_
  refine g_X7_house C hB dX7_startAnew_6 (by decide +kernel) (by decide +kernel) ?_
  refine y_iload_n C dX7_startAnew_9 rfl ?_
  refine y_callVv C (e_X3_startAnew hB _ _ w) dX7_startAnew_10 rfl gX7_startAnew_X3_startAnew rfl (is_X3 hB) ⟨rfl, qX3_startAnew⟩ ⟨rfl, rfl⟩ ⟨Nat.le_of_ble_eq_true rfl, Nat.le_of_ble_eq_true rfl⟩ rfl (Nat.le_of_ble_eq_true rfl) ⟨Nat.zero_le _, Nat.zero_le _⟩ (fun σ1 τ1 hq => ?_)
  obtain ⟨h1, hF1, rfl⟩ := hq
  refine y_aload_n C dX7_startAnew_13 rfl ?_
  refine g_X7_hearth C hB dX7_startAnew_14 (by decide +kernel) (by decide +kernel) ?_
  refine y_callVv C (e_X2_startAnew hB _ _) dX7_startAnew_17 rfl gX7_startAnew_X2_startAnew rfl (is_X2 hB) ⟨rfl, qX2_startAnew⟩ ⟨rfl, rfl⟩ ⟨Nat.le_of_ble_eq_true rfl, Nat.le_of_ble_eq_true rfl⟩ rfl (Nat.le_of_ble_eq_true rfl) ⟨Nat.zero_le _, Nat.zero_le _⟩ (fun σ2 τ2 hq => ?_)
  obtain ⟨h2, hF2, rfl⟩ := hq
  refine y_aload_n C dX7_startAnew_20 rfl ?_
  refine g_X7_sensors C hB dX7_startAnew_21 (by decide +kernel) (by decide +kernel) ?_
  refine y_callVv C (e_X6_clear hB _ _) dX7_startAnew_24 rfl gX7_startAnew_X6_clear rfl (is_X6 hB) ⟨rfl, qX6_clear⟩ ⟨rfl, rfl⟩ ⟨Nat.le_of_ble_eq_true rfl, Nat.le_of_ble_eq_true rfl⟩ rfl (Nat.le_of_ble_eq_true rfl) ⟨Nat.zero_le _, Nat.zero_le _⟩ (fun σ3 τ3 hq => ?_)
  obtain ⟨h3, hF3, rfl⟩ := hq
  refine y_aload_n C dX7_startAnew_27 rfl ?_
  refine g_X7_alarms C hB dX7_startAnew_28 (by decide +kernel) (by decide +kernel) ?_
  refine y_callVv C (e_X0_startAnew hB _ _) dX7_startAnew_31 rfl gX7_startAnew_X0_startAnew rfl (is_X0 hB) ⟨rfl, qX0_startAnew⟩ ⟨rfl, rfl⟩ ⟨Nat.le_of_ble_eq_true rfl, Nat.le_of_ble_eq_true rfl⟩ rfl (Nat.le_of_ble_eq_true rfl) ⟨Nat.zero_le _, Nat.zero_le _⟩ (fun σ4 τ4 hq => ?_)
  obtain ⟨h4, hF4, rfl⟩ := hq
  refine y_aload_n C dX7_startAnew_34 rfl ?_
  refine g_X7_rules C hB dX7_startAnew_35 (by decide +kernel) (by decide +kernel) ?_
  refine y_callVv C (e_X5_clear hB _ _) dX7_startAnew_38 rfl gX7_startAnew_X5_clear rfl (is_X5 hB) ⟨rfl, qX5_clear⟩ ⟨rfl, rfl⟩ ⟨Nat.le_of_ble_eq_true rfl, Nat.le_of_ble_eq_true rfl⟩ rfl (Nat.le_of_ble_eq_true rfl) ⟨Nat.zero_le _, Nat.zero_le _⟩ (fun σ5 τ5 hq => ?_)
  obtain ⟨h5, hF5, rfl⟩ := hq
  refine y_aload_n C dX7_startAnew_41 rfl ?_
  refine g_X7_events C hB dX7_startAnew_42 (by decide +kernel) (by decide +kernel) ?_
  refine y_callVv C (e_X1_clear hB _ _) dX7_startAnew_45 rfl gX7_startAnew_X1_clear rfl (is_X1 hB) ⟨rfl, qX1_clear⟩ ⟨rfl, rfl⟩ ⟨Nat.le_of_ble_eq_true rfl, Nat.le_of_ble_eq_true rfl⟩ rfl (Nat.le_of_ble_eq_true rfl) ⟨Nat.zero_le _, Nat.zero_le _⟩ (fun σ6 τ6 hq => ?_)
  obtain ⟨h6, hF6, rfl⟩ := hq
  refine y_iconst (v := 0) C dX7_startAnew_48 (by decide) ?_
  refine y_istore_n C dX7_startAnew_49 (L' := [_, _, _]) (Nat.lt_of_lt_of_le (by decide : (2 : Nat) < 3) (Nat.le_refl _)) rfl ?_
  refine l_X7_startAnew C hB _ _ w (fun σ7 h7 hF7 => ?_) _ 0 (Nat.zero_add _) _ (fun i hi => absurd hi (Nat.not_lt_zero _)) Fr.rf
  exact y_vret C rfl dX7_startAnew_69 (⟨⟨fun j hj => by
      have hj2 : j < 32 ∧ j ≠ 19 := by
        rcases hj with q | q | q | q
        · exact q
        all_goals
          exact absurd q.2.2 (nI_nlt0 _ (by omega))
      obtain ⟨h32, h19⟩ := hj2
      have hz : j = 0 ∨ j = 1 ∨ j = 2 ∨ j = 3 ∨ j = 4 ∨ j = 5 ∨ j = 6 ∨ j = 7 ∨ j = 8 ∨ j = 9 ∨ j = 10 ∨ j = 11 ∨ j = 12 ∨ j = 13 ∨ j = 14 ∨ j = 15 ∨ j = 16 ∨ j = 17 ∨ j = 18 ∨ j = 19 ∨ j = 20 ∨ j = 21 ∨ j = 22 ∨ j = 23 ∨ j = 24 ∨ j = 25 ∨ j = 26 ∨ j = 27 ∨ j = 28 ∨ j = 29 ∨ j = 30 ∨ j = 31 := by omega
      rcases hz with rfl | rfl | rfl | rfl | rfl | rfl | rfl | rfl | rfl | rfl | rfl | rfl | rfl | rfl | rfl | rfl | rfl | rfl | rfl | rfl | rfl | rfl | rfl | rfl | rfl | rfl | rfl | rfl | rfl | rfl | rfl | rfl
      · show σ7 (B + 4) 2 = _
        rw [hF7 _ (by omega), hF6 _ (by omega), hF5 _ (by omega), hF4 _ (by omega), hF3 _ (by omega), h2.2.2.1]
        rfl
      · show σ7 (B + 13) 0 = _
        rw [hF7 _ (by omega), hF6 _ (by omega), hF5 _ (by omega), h4.1]
        rfl
      · show σ7 (B + 13) 1 = _
        rw [hF7 _ (by omega), hF6 _ (by omega), hF5 _ (by omega), h4.2.1]
        rfl
      · show σ7 (B + 4) 5 = _
        rw [hF7 _ (by omega), hF6 _ (by omega), hF5 _ (by omega), hF4 _ (by omega), hF3 _ (by omega), h2.2.2.2.2.2]
        rfl
      · show σ7 (B + 4) 3 = _
        rw [hF7 _ (by omega), hF6 _ (by omega), hF5 _ (by omega), hF4 _ (by omega), hF3 _ (by omega), h2.2.2.2.1]
        rfl
      · show σ7 (B + 4) 1 = _
        rw [hF7 _ (by omega), hF6 _ (by omega), hF5 _ (by omega), hF4 _ (by omega), hF3 _ (by omega), h2.2.1]
        rfl
      · show σ7 (B + 1) 0 = _
        rw [hF7 _ (by omega), hF6 _ (by omega), hF5 _ (by omega), hF4 _ (by omega), hF3 _ (by omega), hF2 _ (by omega), h1.1]
        rfl
      · show σ7 (B + 0) 0 = 0
        rw [hF7 _ (by omega), hF6 _ (by omega), hF5 _ (by omega), hF4 _ (by omega), hF3 _ (by omega), hF2 _ (by omega), hF1 _ (by omega)]
        simp [ups, upd]
      · show σ7 (B + 4) 0 = _
        rw [hF7 _ (by omega), hF6 _ (by omega), hF5 _ (by omega), hF4 _ (by omega), hF3 _ (by omega), h2.1]
        rfl
      · show σ7 (B + 4) 4 = _
        rw [hF7 _ (by omega), hF6 _ (by omega), hF5 _ (by omega), hF4 _ (by omega), hF3 _ (by omega), h2.2.2.2.2.1]
        rfl
      · show σ7 (B + 5) 0 = _
        rw [hF7 _ (by omega), hF6 _ (by omega), hF5 _ (by omega), hF4 _ (by omega), h3]
        rfl
      · show σ7 (B + 16) 0 = _
        rw [hF7 _ (by omega), hF6 _ (by omega), h5]
        rfl
      · show σ7 (B + 21) 0 = _
        rw [hF7 _ (by omega), h6]
        rfl
      · show σ7 (B + 26) 0 = 0
        exact h7 0 (by decide)
      · show σ7 (B + 26) 1 = 0
        exact h7 1 (by decide)
      · show σ7 (B + 26) 2 = 0
        exact h7 2 (by decide)
      · show σ7 (B + 26) 3 = 0
        exact h7 3 (by decide)
      · show σ7 (B + 26) 4 = 0
        exact h7 4 (by decide)
      · show σ7 (B + 26) 5 = 0
        exact h7 5 (by decide)
      · exact absurd rfl h19
      · show σ7 (B + 2) 0 = _
        rw [hF7 _ (by omega), hF6 _ (by omega), hF5 _ (by omega), hF4 _ (by omega), hF3 _ (by omega), hF2 _ (by omega), h1.2.2 0 (by decide)]
        rfl
      · show σ7 (B + 2) 1 = _
        rw [hF7 _ (by omega), hF6 _ (by omega), hF5 _ (by omega), hF4 _ (by omega), hF3 _ (by omega), hF2 _ (by omega), h1.2.2 1 (by decide)]
        rfl
      · show σ7 (B + 2) 2 = _
        rw [hF7 _ (by omega), hF6 _ (by omega), hF5 _ (by omega), hF4 _ (by omega), hF3 _ (by omega), hF2 _ (by omega), h1.2.2 2 (by decide)]
        rfl
      · show σ7 (B + 2) 3 = _
        rw [hF7 _ (by omega), hF6 _ (by omega), hF5 _ (by omega), hF4 _ (by omega), hF3 _ (by omega), hF2 _ (by omega), h1.2.2 3 (by decide)]
        rfl
      · show σ7 (B + 14) 0 = _
        rw [hF7 _ (by omega), hF6 _ (by omega), hF5 _ (by omega), (h4.2.2 0 (by decide)).1]
        rfl
      · show σ7 (B + 14) 1 = _
        rw [hF7 _ (by omega), hF6 _ (by omega), hF5 _ (by omega), (h4.2.2 1 (by decide)).1]
        rfl
      · show σ7 (B + 14) 2 = _
        rw [hF7 _ (by omega), hF6 _ (by omega), hF5 _ (by omega), (h4.2.2 2 (by decide)).1]
        rfl
      · show σ7 (B + 14) 3 = _
        rw [hF7 _ (by omega), hF6 _ (by omega), hF5 _ (by omega), (h4.2.2 3 (by decide)).1]
        rfl
      · show σ7 (B + 15) 0 = _
        rw [hF7 _ (by omega), hF6 _ (by omega), hF5 _ (by omega), (h4.2.2 0 (by decide)).2]
        rfl
      · show σ7 (B + 15) 1 = _
        rw [hF7 _ (by omega), hF6 _ (by omega), hF5 _ (by omega), (h4.2.2 1 (by decide)).2]
        rfl
      · show σ7 (B + 15) 2 = _
        rw [hF7 _ (by omega), hF6 _ (by omega), hF5 _ (by omega), (h4.2.2 2 (by decide)).2]
        rfl
      · show σ7 (B + 15) 3 = _
        rw [hF7 _ (by omega), hF6 _ (by omega), hF5 _ (by omega), (h4.2.2 3 (by decide)).2]
        rfl
      , fun a b ha hb hab => by
      rw [hF7 _ (by omega), hF6 _ (by omega), hF5 _ (by omega), hF4 _ (by omega), hF3 _ (by omega), hF2 _ (by omega), h1.2.1]
      have e : mBeg w (32 + 5 * a + b) = 0 := by
        simp only [mBeg]
        rw [if_neg (by omega), if_neg (by omega), if_neg (by omega), if_neg (by omega), if_neg (by omega)]
      rw [e]
      simp⟩, fun a ha => by
      have ha : ¬ (B ≤ a ∧ a < B + 27) := ha
      rw [hF7 _ (fun q => ha (by have q := q; revert q; dsimp only; omega)), hF6 _ (fun q => ha (by have q := q; revert q; dsimp only; omega)), hF5 _ (fun q => ha (by have q := q; revert q; dsimp only; omega)), hF4 _ (fun q => ha (by have q := q; revert q; dsimp only; omega)), hF3 _ (fun q => ha (by have q := q; revert q; dsimp only; omega)), hF2 _ (fun q => ha (by have q := q; revert q; dsimp only; omega)), hF1 _ (fun q => ha (by have q := q; revert q; dsimp only; omega))]
      simp [ups, show ¬ a = B by omega], rfl⟩)
