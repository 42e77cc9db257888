theorem isW_apart {B B2 : Nat} (h : isW B) (h2 : isW B2) (hn : B ≠ B2) : B + 27 ≤ B2 ∨ B2 + 27 ≤ B := by
  rcases h with h | h | h | h | h | h <;> rcases h2 with h2 | h2 | h2 | h2 | h2 | h2 <;> omega
def nD : List Nat := [1, 1, 4, 0, 6, 1, 8, 8, 8, 8, 8, 8, 8, 2, 4, 4, 1, 8, 8, 8, 8, 1, 20, 20, 20, 20, 6]
theorem nD_pl : ∀ j, j < 225 → ((32 ≤ j ∧ j < 57) ∨ j = 19 ∨ (pl j).2 < nD.getD (pl j).1 0) := by decide +kernel
theorem Rel.copy {σ σ1 : xS} {B B2 : Nat} (h : ∀ d i, i < nD.getD d 0 → σ1 (B + d) i = σ (B2 + d) i) (hd : σ1 (B + 1) 2 = σ (B2 + 1) 2) {r : Rw} (hR : Rel σ B2 r) : Rel σ1 B r := by
  refine ⟨fun j hj => ?_, fun a b ha hb hab => ?_⟩
  · rw [h _ _ (by
      rcases nD_pl j (lv_lt5 hj) with q | q | q
      · rcases hj with z | z | z | z <;> omega
      · rcases hj with z | z | z | z <;> omega
      · exact q)]
    exact hR.1 j hj
  · rw [hd]
    exact hR.2 a b ha hb hab
set_option maxHeartbeats 4000000 in
set_option maxRecDepth 100000 in
theorem e_X3_copyFrom {B B2 : Nat} (hB : isW B) (hB2 : isW B2) (hBB : B + 27 ≤ B2 ∨ B2 + 27 ≤ B) (σ : xS) (τ : xT) : Xv mX3_copyFrom [.ref (B + 1), .ref (B2 + 1)] σ τ (fun σ1 τ1 => ((∀ i, i < 1 → σ1 (B + 1) i = σ (B2 + 1) i) ∧ (∀ i, i < 4 → σ1 (B + 2) i = σ (B2 + 2) i) ∧ σ1 (B + 1) 2 = σ (B2 + 1) 2) ∧ Fr (fun a => B + 1 ≤ a ∧ a ≤ B + 2) σ σ1 ∧ τ = τ1) := by
  have hle := isW_le hB
  have hle2 := isW_le hB2
  refine Xv_mk (L := [some (.ref (B + 1)), some (.ref (B2 + 1))]) (by decide) rfl (Nat.le_of_ble_eq_true rfl) rfl (fun x C => ?_)
  refine y_aload_n C dX3_copyFrom_0 rfl ?_
  refine y_aload_n C dX3_copyFrom_1 rfl ?_
  refine g_X3_rooms C hB2 dX3_copyFrom_2 (by decide +kernel) (by decide +kernel) ?_
  refine p_X3_rooms C hB dX3_copyFrom_5 (by decide +kernel) (by decide +kernel) ?_
  refine y_aload_n C dX3_copyFrom_8 rfl ?_
  refine y_aload_n C dX3_copyFrom_9 rfl ?_
  refine g_X3_openDoors C hB2 dX3_copyFrom_10 (by decide +kernel) (by decide +kernel) ?_
  refine p_X3_openDoors C hB dX3_copyFrom_13 (by decide +kernel) (by decide +kernel) ?_
  refine y_aload_n C dX3_copyFrom_16 rfl ?_
  refine g_X3_smoke C hB2 dX3_copyFrom_17 (by decide +kernel) (by decide +kernel) ?_
  refine y_aload_n C dX3_copyFrom_20 rfl ?_
  refine g_X3_smoke C hB dX3_copyFrom_21 (by decide +kernel) (by decide +kernel) ?_
  refine y_callNv C (e_X8_copyRow _ _ (B2 + 2) (B + 2) 4 (by omega) (by omega) (xSH_W hB2 2 (by decide)) (xSH_W hB 2 (by decide)) (by decide)) dX3_copyFrom_24 rfl gX3_copyFrom_X8_copyRow_n25 rfl (by decide +kernel) (by decide +kernel) (by decide +kernel) qX8_copyRow ⟨rfl, rfl⟩ ⟨Nat.le_of_ble_eq_true rfl, Nat.le_of_ble_eq_true rfl⟩ rfl (Nat.le_of_ble_eq_true rfl) ⟨Nat.zero_le _, Nat.zero_le _⟩ (fun σ1 τ1 hq => ?_)
  obtain ⟨hc1, hF1, rfl⟩ := hq
  have n12 : ¬ (B2 + 1 = B + 1) := by omega
  have nBB : ¬ B2 = B := by omega
  exact y_vret C rfl dX3_copyFrom_27 (⟨⟨fun i hi => by
        rw [hF1 _ (by omega)]
        have hz : i = 0 := by omega
        rcases hz with rfl <;> simp [ups, upd, n12, nBB],
      fun i hi => by
        rw [hc1 i hi]
        simp [ups, n12, nBB, show ¬ (B2 + 2 = B + 1) by omega],
      by
        rw [hF1 _ (by omega)]
        simp [ups, upd, n12, nBB]⟩,
      fun a ha => by
        have ha : ¬ (B + 1 ≤ a ∧ a ≤ B + 2) := ha
        rw [hF1 _ (show ¬ a = _ by omega)]
        simp [ups, show ¬ a = B + 1 by omega], rfl⟩)
set_option maxHeartbeats 4000000 in
set_option maxRecDepth 100000 in
theorem e_X2_copyFrom {B B2 : Nat} (hB : isW B) (hB2 : isW B2) (hBB : B + 27 ≤ B2 ∨ B2 + 27 ≤ B) (σ : xS) (τ : xT) (hz3 : σ (B2 + 4) 5 = 0 ∨ σ (B2 + 4) 5 = 1) : Xv mX2_copyFrom [.ref (B + 4), .ref (B2 + 4)] σ τ (fun σ1 τ1 => ((∀ i, i < 6 → σ1 (B + 4) i = σ (B2 + 4) i)) ∧ Fr (fun a => B + 4 ≤ a ∧ a ≤ B + 4) σ σ1 ∧ τ = τ1) := by
  have hle := isW_le hB
  have hle2 := isW_le hB2
  refine Xv_mk (L := [some (.ref (B + 4)), some (.ref (B2 + 4))]) (by decide) rfl (Nat.le_of_ble_eq_true rfl) rfl (fun x C => ?_)
  refine y_aload_n C dX2_copyFrom_0 rfl ?_
  refine y_aload_n C dX2_copyFrom_1 rfl ?_
  refine g_X2_fuel C hB2 dX2_copyFrom_2 (by decide +kernel) (by decide +kernel) ?_
  refine p_X2_fuel C hB dX2_copyFrom_5 (by decide +kernel) (by decide +kernel) ?_
  refine y_aload_n C dX2_copyFrom_8 rfl ?_
  refine y_aload_n C dX2_copyFrom_9 rfl ?_
  refine g_X2_warmth C hB2 dX2_copyFrom_10 (by decide +kernel) (by decide +kernel) ?_
  refine p_X2_warmth C hB dX2_copyFrom_13 (by decide +kernel) (by decide +kernel) ?_
  refine y_aload_n C dX2_copyFrom_16 rfl ?_
  refine y_aload_n C dX2_copyFrom_17 rfl ?_
  refine g_X2_wind C hB2 dX2_copyFrom_18 (by decide +kernel) (by decide +kernel) ?_
  refine p_X2_wind C hB dX2_copyFrom_21 (by decide +kernel) (by decide +kernel) ?_
  refine y_aload_n C dX2_copyFrom_24 rfl ?_
  refine y_aload_n C dX2_copyFrom_25 rfl ?_
  refine g_X2_opening C hB2 dX2_copyFrom_26 (by decide +kernel) (by decide +kernel) ?_
  refine p_X2_opening C hB dX2_copyFrom_29 (by decide +kernel) (by decide +kernel) ?_
  refine y_aload_n C dX2_copyFrom_32 rfl ?_
  refine y_aload_n C dX2_copyFrom_33 rfl ?_
  refine g_X2_target C hB2 dX2_copyFrom_34 (by decide +kernel) (by decide +kernel) ?_
  refine p_X2_target C hB dX2_copyFrom_37 (by decide +kernel) (by decide +kernel) ?_
  refine y_aload_n C dX2_copyFrom_40 rfl ?_
  refine y_aload_n C dX2_copyFrom_41 rfl ?_
  refine g_X2_jammed C hB2 dX2_copyFrom_42 (by decide +kernel) (by decide +kernel) ?_
  refine p_X2_jammed C hB (by have nBB : ¬ B2 = B := (by omega); simp only [ups, Nat.add_right_cancel_iff, if_neg nBB]; exact hz3) dX2_copyFrom_45 (by decide +kernel) (by decide +kernel) ?_
  have n12 : ¬ (B2 + 4 = B + 4) := by omega
  have nBB : ¬ B2 = B := by omega
  exact y_vret C rfl dX2_copyFrom_48 (⟨fun i hi => by
        have hz : i = 0 ∨ i = 1 ∨ i = 2 ∨ i = 3 ∨ i = 4 ∨ i = 5 := by omega
        rcases hz with rfl | rfl | rfl | rfl | rfl | rfl <;> simp [ups, upd, n12, nBB],
      fun a ha => by
        have ha : ¬ (B + 4 ≤ a ∧ a ≤ B + 4) := ha
        simp [ups, show ¬ a = B + 4 by omega], rfl⟩)
set_option maxHeartbeats 4000000 in
set_option maxRecDepth 100000 in
theorem e_X6_copyFrom {B B2 : Nat} (hB : isW B) (hB2 : isW B2) (hBB : B + 27 ≤ B2 ∨ B2 + 27 ≤ B) (σ : xS) (τ : xT) : Xv mX6_copyFrom [.ref (B + 5), .ref (B2 + 5)] σ τ (fun σ1 τ1 => ((∀ i, i < 1 → σ1 (B + 5) i = σ (B2 + 5) i) ∧ (∀ i, i < 8 → σ1 (B + 6) i = σ (B2 + 6) i) ∧ (∀ i, i < 8 → σ1 (B + 7) i = σ (B2 + 7) i) ∧ (∀ i, i < 8 → σ1 (B + 8) i = σ (B2 + 8) i) ∧ (∀ i, i < 8 → σ1 (B + 9) i = σ (B2 + 9) i) ∧ (∀ i, i < 8 → σ1 (B + 10) i = σ (B2 + 10) i) ∧ (∀ i, i < 8 → σ1 (B + 11) i = σ (B2 + 11) i) ∧ (∀ i, i < 8 → σ1 (B + 12) i = σ (B2 + 12) i)) ∧ Fr (fun a => B + 5 ≤ a ∧ a ≤ B + 12) σ σ1 ∧ τ = τ1) := by
  have hle := isW_le hB
  have hle2 := isW_le hB2
  refine Xv_mk (L := [some (.ref (B + 5)), some (.ref (B2 + 5))]) (by decide) rfl (Nat.le_of_ble_eq_true rfl) rfl (fun x C => ?_)
  refine y_aload_n C dX6_copyFrom_0 rfl ?_
  refine y_aload_n C dX6_copyFrom_1 rfl ?_
  refine g_X6_count C hB2 dX6_copyFrom_2 (by decide +kernel) (by decide +kernel) ?_
  refine p_X6_count C hB dX6_copyFrom_5 (by decide +kernel) (by decide +kernel) ?_
  refine y_aload_n C dX6_copyFrom_8 rfl ?_
  refine g_X6_room C hB2 dX6_copyFrom_9 (by decide +kernel) (by decide +kernel) ?_
  refine y_aload_n C dX6_copyFrom_12 rfl ?_
  refine g_X6_room C hB dX6_copyFrom_13 (by decide +kernel) (by decide +kernel) ?_
  refine y_callNv C (e_X8_copyRow _ _ (B2 + 6) (B + 6) 8 (by omega) (by omega) (xSH_W hB2 6 (by decide)) (xSH_W hB 6 (by decide)) (by decide)) dX6_copyFrom_16 rfl gX6_copyFrom_X8_copyRow_n37 rfl (by decide +kernel) (by decide +kernel) (by decide +kernel) qX8_copyRow ⟨rfl, rfl⟩ ⟨Nat.le_of_ble_eq_true rfl, Nat.le_of_ble_eq_true rfl⟩ rfl (Nat.le_of_ble_eq_true rfl) ⟨Nat.zero_le _, Nat.zero_le _⟩ (fun σ1 τ1 hq => ?_)
  obtain ⟨hc1, hF1, rfl⟩ := hq
  refine y_aload_n C dX6_copyFrom_19 rfl ?_
  refine g_X6_kind C hB2 dX6_copyFrom_20 (by decide +kernel) (by decide +kernel) ?_
  refine y_aload_n C dX6_copyFrom_23 rfl ?_
  refine g_X6_kind C hB dX6_copyFrom_24 (by decide +kernel) (by decide +kernel) ?_
  refine y_callNv C (e_X8_copyRow _ _ (B2 + 7) (B + 7) 8 (by omega) (by omega) (xSH_W hB2 7 (by decide)) (xSH_W hB 7 (by decide)) (by decide)) dX6_copyFrom_27 rfl gX6_copyFrom_X8_copyRow_n37 rfl (by decide +kernel) (by decide +kernel) (by decide +kernel) qX8_copyRow ⟨rfl, rfl⟩ ⟨Nat.le_of_ble_eq_true rfl, Nat.le_of_ble_eq_true rfl⟩ rfl (Nat.le_of_ble_eq_true rfl) ⟨Nat.zero_le _, Nat.zero_le _⟩ (fun σ2 τ2 hq => ?_)
  obtain ⟨hc2, hF2, rfl⟩ := hq
  refine y_aload_n C dX6_copyFrom_30 rfl ?_
  refine g_X6_threshold C hB2 dX6_copyFrom_31 (by decide +kernel) (by decide +kernel) ?_
  refine y_aload_n C dX6_copyFrom_34 rfl ?_
  refine g_X6_threshold C hB dX6_copyFrom_35 (by decide +kernel) (by decide +kernel) ?_
  refine y_callNv C (e_X8_copyRow _ _ (B2 + 8) (B + 8) 8 (by omega) (by omega) (xSH_W hB2 8 (by decide)) (xSH_W hB 8 (by decide)) (by decide)) dX6_copyFrom_38 rfl gX6_copyFrom_X8_copyRow_n37 rfl (by decide +kernel) (by decide +kernel) (by decide +kernel) qX8_copyRow ⟨rfl, rfl⟩ ⟨Nat.le_of_ble_eq_true rfl, Nat.le_of_ble_eq_true rfl⟩ rfl (Nat.le_of_ble_eq_true rfl) ⟨Nat.zero_le _, Nat.zero_le _⟩ (fun σ3 τ3 hq => ?_)
  obtain ⟨hc3, hF3, rfl⟩ := hq
  refine y_aload_n C dX6_copyFrom_41 rfl ?_
  refine g_X6_delay C hB2 dX6_copyFrom_42 (by decide +kernel) (by decide +kernel) ?_
  refine y_aload_n C dX6_copyFrom_45 rfl ?_
  refine g_X6_delay C hB dX6_copyFrom_46 (by decide +kernel) (by decide +kernel) ?_
  refine y_callNv C (e_X8_copyRow _ _ (B2 + 9) (B + 9) 8 (by omega) (by omega) (xSH_W hB2 9 (by decide)) (xSH_W hB 9 (by decide)) (by decide)) dX6_copyFrom_49 rfl gX6_copyFrom_X8_copyRow_n37 rfl (by decide +kernel) (by decide +kernel) (by decide +kernel) qX8_copyRow ⟨rfl, rfl⟩ ⟨Nat.le_of_ble_eq_true rfl, Nat.le_of_ble_eq_true rfl⟩ rfl (Nat.le_of_ble_eq_true rfl) ⟨Nat.zero_le _, Nat.zero_le _⟩ (fun σ4 τ4 hq => ?_)
  obtain ⟨hc4, hF4, rfl⟩ := hq
  refine y_aload_n C dX6_copyFrom_52 rfl ?_
  refine g_X6_weight C hB2 dX6_copyFrom_53 (by decide +kernel) (by decide +kernel) ?_
  refine y_aload_n C dX6_copyFrom_56 rfl ?_
  refine g_X6_weight C hB dX6_copyFrom_57 (by decide +kernel) (by decide +kernel) ?_
  refine y_callNv C (e_X8_copyRow _ _ (B2 + 10) (B + 10) 8 (by omega) (by omega) (xSH_W hB2 10 (by decide)) (xSH_W hB 10 (by decide)) (by decide)) dX6_copyFrom_60 rfl gX6_copyFrom_X8_copyRow_n37 rfl (by decide +kernel) (by decide +kernel) (by decide +kernel) qX8_copyRow ⟨rfl, rfl⟩ ⟨Nat.le_of_ble_eq_true rfl, Nat.le_of_ble_eq_true rfl⟩ rfl (Nat.le_of_ble_eq_true rfl) ⟨Nat.zero_le _, Nat.zero_le _⟩ (fun σ5 τ5 hq => ?_)
  obtain ⟨hc5, hF5, rfl⟩ := hq
  refine y_aload_n C dX6_copyFrom_63 rfl ?_
  refine g_X6_fault C hB2 dX6_copyFrom_64 (by decide +kernel) (by decide +kernel) ?_
  refine y_aload_n C dX6_copyFrom_67 rfl ?_
  refine g_X6_fault C hB dX6_copyFrom_68 (by decide +kernel) (by decide +kernel) ?_
  refine y_callNv C (e_X8_copyRow _ _ (B2 + 11) (B + 11) 8 (by omega) (by omega) (xSH_W hB2 11 (by decide)) (xSH_W hB 11 (by decide)) (by decide)) dX6_copyFrom_71 rfl gX6_copyFrom_X8_copyRow_n37 rfl (by decide +kernel) (by decide +kernel) (by decide +kernel) qX8_copyRow ⟨rfl, rfl⟩ ⟨Nat.le_of_ble_eq_true rfl, Nat.le_of_ble_eq_true rfl⟩ rfl (Nat.le_of_ble_eq_true rfl) ⟨Nat.zero_le _, Nat.zero_le _⟩ (fun σ6 τ6 hq => ?_)
  obtain ⟨hc6, hF6, rfl⟩ := hq
  refine y_aload_n C dX6_copyFrom_74 rfl ?_
  refine g_X6_excitedFor C hB2 dX6_copyFrom_75 (by decide +kernel) (by decide +kernel) ?_
  refine y_aload_n C dX6_copyFrom_78 rfl ?_
  refine g_X6_excitedFor C hB dX6_copyFrom_79 (by decide +kernel) (by decide +kernel) ?_
  refine y_callNv C (e_X8_copyRow _ _ (B2 + 12) (B + 12) 8 (by omega) (by omega) (xSH_W hB2 12 (by decide)) (xSH_W hB 12 (by decide)) (by decide)) dX6_copyFrom_82 rfl gX6_copyFrom_X8_copyRow_n37 rfl (by decide +kernel) (by decide +kernel) (by decide +kernel) qX8_copyRow ⟨rfl, rfl⟩ ⟨Nat.le_of_ble_eq_true rfl, Nat.le_of_ble_eq_true rfl⟩ rfl (Nat.le_of_ble_eq_true rfl) ⟨Nat.zero_le _, Nat.zero_le _⟩ (fun σ7 τ7 hq => ?_)
  obtain ⟨hc7, hF7, rfl⟩ := hq
  have n12 : ¬ (B2 + 5 = B + 5) := by omega
  have nBB : ¬ B2 = B := by omega
  exact y_vret C rfl dX6_copyFrom_85 (⟨⟨fun i hi => by
        rw [hF7 _ (by omega), hF6 _ (by omega), hF5 _ (by omega), hF4 _ (by omega), hF3 _ (by omega), hF2 _ (by omega), hF1 _ (by omega)]
        have hz : i = 0 := by omega
        rcases hz with rfl <;> simp [ups, upd, n12, nBB],
      fun i hi => by
        rw [hF7 _ (by omega), hF6 _ (by omega), hF5 _ (by omega), hF4 _ (by omega), hF3 _ (by omega), hF2 _ (by omega), hc1 i hi]
        simp [ups, n12, nBB, show ¬ (B2 + 6 = B + 5) by omega],
      fun i hi => by
        rw [hF7 _ (by omega), hF6 _ (by omega), hF5 _ (by omega), hF4 _ (by omega), hF3 _ (by omega), hc2 i hi, hF1 _ (by omega)]
        simp [ups, n12, nBB, show ¬ (B2 + 7 = B + 5) by omega],
      fun i hi => by
        rw [hF7 _ (by omega), hF6 _ (by omega), hF5 _ (by omega), hF4 _ (by omega), hc3 i hi, hF2 _ (by omega), hF1 _ (by omega)]
        simp [ups, n12, nBB, show ¬ (B2 + 8 = B + 5) by omega],
      fun i hi => by
        rw [hF7 _ (by omega), hF6 _ (by omega), hF5 _ (by omega), hc4 i hi, hF3 _ (by omega), hF2 _ (by omega), hF1 _ (by omega)]
        simp [ups, n12, nBB, show ¬ (B2 + 9 = B + 5) by omega],
      fun i hi => by
        rw [hF7 _ (by omega), hF6 _ (by omega), hc5 i hi, hF4 _ (by omega), hF3 _ (by omega), hF2 _ (by omega), hF1 _ (by omega)]
        simp [ups, n12, nBB, show ¬ (B2 + 10 = B + 5) by omega],
      fun i hi => by
        rw [hF7 _ (by omega), hc6 i hi, hF5 _ (by omega), hF4 _ (by omega), hF3 _ (by omega), hF2 _ (by omega), hF1 _ (by omega)]
        simp [ups, n12, nBB, show ¬ (B2 + 11 = B + 5) by omega],
      fun i hi => by
        rw [hc7 i hi, hF6 _ (by omega), hF5 _ (by omega), hF4 _ (by omega), hF3 _ (by omega), hF2 _ (by omega), hF1 _ (by omega)]
        simp [ups, n12, nBB, show ¬ (B2 + 12 = B + 5) by omega]⟩,
      fun a ha => by
        have ha : ¬ (B + 5 ≤ a ∧ a ≤ B + 12) := ha
        rw [hF7 _ (show ¬ a = _ by omega), hF6 _ (show ¬ a = _ by omega), hF5 _ (show ¬ a = _ by omega), hF4 _ (show ¬ a = _ by omega), hF3 _ (show ¬ a = _ by omega), hF2 _ (show ¬ a = _ by omega), hF1 _ (show ¬ a = _ by omega)]
        simp [ups, show ¬ a = B + 5 by omega], rfl⟩)
set_option maxHeartbeats 4000000 in
set_option maxRecDepth 100000 in
theorem e_X0_copyFrom {B B2 : Nat} (hB : isW B) (hB2 : isW B2) (hBB : B + 27 ≤ B2 ∨ B2 + 27 ≤ B) (σ : xS) (τ : xT) : Xv mX0_copyFrom [.ref (B + 13), .ref (B2 + 13)] σ τ (fun σ1 τ1 => ((∀ i, i < 2 → σ1 (B + 13) i = σ (B2 + 13) i) ∧ (∀ i, i < 4 → σ1 (B + 14) i = σ (B2 + 14) i) ∧ (∀ i, i < 4 → σ1 (B + 15) i = σ (B2 + 15) i)) ∧ Fr (fun a => B + 13 ≤ a ∧ a ≤ B + 15) σ σ1 ∧ τ = τ1) := by
  have hle := isW_le hB
  have hle2 := isW_le hB2
  refine Xv_mk (L := [some (.ref (B + 13)), some (.ref (B2 + 13))]) (by decide) rfl (Nat.le_of_ble_eq_true rfl) rfl (fun x C => ?_)
  refine y_aload_n C dX0_copyFrom_0 rfl ?_
  refine y_aload_n C dX0_copyFrom_1 rfl ?_
  refine g_X0_quorum C hB2 dX0_copyFrom_2 (by decide +kernel) (by decide +kernel) ?_
  refine p_X0_quorum C hB dX0_copyFrom_5 (by decide +kernel) (by decide +kernel) ?_
  refine y_aload_n C dX0_copyFrom_8 rfl ?_
  refine y_aload_n C dX0_copyFrom_9 rfl ?_
  refine g_X0_hold C hB2 dX0_copyFrom_10 (by decide +kernel) (by decide +kernel) ?_
  refine p_X0_hold C hB dX0_copyFrom_13 (by decide +kernel) (by decide +kernel) ?_
  refine y_aload_n C dX0_copyFrom_16 rfl ?_
  refine g_X0_rest C hB2 dX0_copyFrom_17 (by decide +kernel) (by decide +kernel) ?_
  refine y_aload_n C dX0_copyFrom_20 rfl ?_
  refine g_X0_rest C hB dX0_copyFrom_21 (by decide +kernel) (by decide +kernel) ?_
  refine y_callNv C (e_X8_copyRow _ _ (B2 + 14) (B + 14) 4 (by omega) (by omega) (xSH_W hB2 14 (by decide)) (xSH_W hB 14 (by decide)) (by decide)) dX0_copyFrom_24 rfl gX0_copyFrom_X8_copyRow_n25 rfl (by decide +kernel) (by decide +kernel) (by decide +kernel) qX8_copyRow ⟨rfl, rfl⟩ ⟨Nat.le_of_ble_eq_true rfl, Nat.le_of_ble_eq_true rfl⟩ rfl (Nat.le_of_ble_eq_true rfl) ⟨Nat.zero_le _, Nat.zero_le _⟩ (fun σ1 τ1 hq => ?_)
  obtain ⟨hc1, hF1, rfl⟩ := hq
  refine y_aload_n C dX0_copyFrom_27 rfl ?_
  refine g_X0_muting C hB2 dX0_copyFrom_28 (by decide +kernel) (by decide +kernel) ?_
  refine y_aload_n C dX0_copyFrom_31 rfl ?_
  refine g_X0_muting C hB dX0_copyFrom_32 (by decide +kernel) (by decide +kernel) ?_
  refine y_callNv C (e_X8_copyRow _ _ (B2 + 15) (B + 15) 4 (by omega) (by omega) (xSH_W hB2 15 (by decide)) (xSH_W hB 15 (by decide)) (by decide)) dX0_copyFrom_35 rfl gX0_copyFrom_X8_copyRow_n25 rfl (by decide +kernel) (by decide +kernel) (by decide +kernel) qX8_copyRow ⟨rfl, rfl⟩ ⟨Nat.le_of_ble_eq_true rfl, Nat.le_of_ble_eq_true rfl⟩ rfl (Nat.le_of_ble_eq_true rfl) ⟨Nat.zero_le _, Nat.zero_le _⟩ (fun σ2 τ2 hq => ?_)
  obtain ⟨hc2, hF2, rfl⟩ := hq
  have n12 : ¬ (B2 + 13 = B + 13) := by omega
  have nBB : ¬ B2 = B := by omega
  exact y_vret C rfl dX0_copyFrom_38 (⟨⟨fun i hi => by
        rw [hF2 _ (by omega), hF1 _ (by omega)]
        have hz : i = 0 ∨ i = 1 := by omega
        rcases hz with rfl | rfl <;> simp [ups, upd, n12, nBB],
      fun i hi => by
        rw [hF2 _ (by omega), hc1 i hi]
        simp [ups, n12, nBB, show ¬ (B2 + 14 = B + 13) by omega],
      fun i hi => by
        rw [hc2 i hi, hF1 _ (by omega)]
        simp [ups, n12, nBB, show ¬ (B2 + 15 = B + 13) by omega]⟩,
      fun a ha => by
        have ha : ¬ (B + 13 ≤ a ∧ a ≤ B + 15) := ha
        rw [hF2 _ (show ¬ a = _ by omega), hF1 _ (show ¬ a = _ by omega)]
        simp [ups, show ¬ a = B + 13 by omega], rfl⟩)
set_option maxHeartbeats 4000000 in
set_option maxRecDepth 100000 in
theorem e_X5_copyFrom {B B2 : Nat} (hB : isW B) (hB2 : isW B2) (hBB : B + 27 ≤ B2 ∨ B2 + 27 ≤ B) (σ : xS) (τ : xT) : Xv mX5_copyFrom [.ref (B + 16), .ref (B2 + 16)] σ τ (fun σ1 τ1 => ((∀ i, i < 1 → σ1 (B + 16) i = σ (B2 + 16) i) ∧ (∀ i, i < 8 → σ1 (B + 17) i = σ (B2 + 17) i) ∧ (∀ i, i < 8 → σ1 (B + 18) i = σ (B2 + 18) i) ∧ (∀ i, i < 8 → σ1 (B + 19) i = σ (B2 + 19) i) ∧ (∀ i, i < 8 → σ1 (B + 20) i = σ (B2 + 20) i)) ∧ Fr (fun a => B + 16 ≤ a ∧ a ≤ B + 20) σ σ1 ∧ τ = τ1) := by
  have hle := isW_le hB
  have hle2 := isW_le hB2
  refine Xv_mk (L := [some (.ref (B + 16)), some (.ref (B2 + 16))]) (by decide) rfl (Nat.le_of_ble_eq_true rfl) rfl (fun x C => ?_)
  refine y_aload_n C dX5_copyFrom_0 rfl ?_
  refine y_aload_n C dX5_copyFrom_1 rfl ?_
  refine g_X5_count C hB2 dX5_copyFrom_2 (by decide +kernel) (by decide +kernel) ?_
  refine p_X5_count C hB dX5_copyFrom_5 (by decide +kernel) (by decide +kernel) ?_
  refine y_aload_n C dX5_copyFrom_8 rfl ?_
  refine g_X5_kind C hB2 dX5_copyFrom_9 (by decide +kernel) (by decide +kernel) ?_
  refine y_aload_n C dX5_copyFrom_12 rfl ?_
  refine g_X5_kind C hB dX5_copyFrom_13 (by decide +kernel) (by decide +kernel) ?_
  refine y_callNv C (e_X8_copyRow _ _ (B2 + 17) (B + 17) 8 (by omega) (by omega) (xSH_W hB2 17 (by decide)) (xSH_W hB 17 (by decide)) (by decide)) dX5_copyFrom_16 rfl gX5_copyFrom_X8_copyRow_n28 rfl (by decide +kernel) (by decide +kernel) (by decide +kernel) qX8_copyRow ⟨rfl, rfl⟩ ⟨Nat.le_of_ble_eq_true rfl, Nat.le_of_ble_eq_true rfl⟩ rfl (Nat.le_of_ble_eq_true rfl) ⟨Nat.zero_le _, Nat.zero_le _⟩ (fun σ1 τ1 hq => ?_)
  obtain ⟨hc1, hF1, rfl⟩ := hq
  refine y_aload_n C dX5_copyFrom_19 rfl ?_
  refine g_X5_room C hB2 dX5_copyFrom_20 (by decide +kernel) (by decide +kernel) ?_
  refine y_aload_n C dX5_copyFrom_23 rfl ?_
  refine g_X5_room C hB dX5_copyFrom_24 (by decide +kernel) (by decide +kernel) ?_
  refine y_callNv C (e_X8_copyRow _ _ (B2 + 18) (B + 18) 8 (by omega) (by omega) (xSH_W hB2 18 (by decide)) (xSH_W hB 18 (by decide)) (by decide)) dX5_copyFrom_27 rfl gX5_copyFrom_X8_copyRow_n28 rfl (by decide +kernel) (by decide +kernel) (by decide +kernel) qX8_copyRow ⟨rfl, rfl⟩ ⟨Nat.le_of_ble_eq_true rfl, Nat.le_of_ble_eq_true rfl⟩ rfl (Nat.le_of_ble_eq_true rfl) ⟨Nat.zero_le _, Nat.zero_le _⟩ (fun σ2 τ2 hq => ?_)
  obtain ⟨hc2, hF2, rfl⟩ := hq
  refine y_aload_n C dX5_copyFrom_30 rfl ?_
  refine g_X5_limit C hB2 dX5_copyFrom_31 (by decide +kernel) (by decide +kernel) ?_
  refine y_aload_n C dX5_copyFrom_34 rfl ?_
  refine g_X5_limit C hB dX5_copyFrom_35 (by decide +kernel) (by decide +kernel) ?_
  refine y_callNv C (e_X8_copyRow _ _ (B2 + 19) (B + 19) 8 (by omega) (by omega) (xSH_W hB2 19 (by decide)) (xSH_W hB 19 (by decide)) (by decide)) dX5_copyFrom_38 rfl gX5_copyFrom_X8_copyRow_n28 rfl (by decide +kernel) (by decide +kernel) (by decide +kernel) qX8_copyRow ⟨rfl, rfl⟩ ⟨Nat.le_of_ble_eq_true rfl, Nat.le_of_ble_eq_true rfl⟩ rfl (Nat.le_of_ble_eq_true rfl) ⟨Nat.zero_le _, Nat.zero_le _⟩ (fun σ3 τ3 hq => ?_)
  obtain ⟨hc3, hF3, rfl⟩ := hq
  refine y_aload_n C dX5_copyFrom_41 rfl ?_
  refine g_X5_opening C hB2 dX5_copyFrom_42 (by decide +kernel) (by decide +kernel) ?_
  refine y_aload_n C dX5_copyFrom_45 rfl ?_
  refine g_X5_opening C hB dX5_copyFrom_46 (by decide +kernel) (by decide +kernel) ?_
  refine y_callNv C (e_X8_copyRow _ _ (B2 + 20) (B + 20) 8 (by omega) (by omega) (xSH_W hB2 20 (by decide)) (xSH_W hB 20 (by decide)) (by decide)) dX5_copyFrom_49 rfl gX5_copyFrom_X8_copyRow_n28 rfl (by decide +kernel) (by decide +kernel) (by decide +kernel) qX8_copyRow ⟨rfl, rfl⟩ ⟨Nat.le_of_ble_eq_true rfl, Nat.le_of_ble_eq_true rfl⟩ rfl (Nat.le_of_ble_eq_true rfl) ⟨Nat.zero_le _, Nat.zero_le _⟩ (fun σ4 τ4 hq => ?_)
  obtain ⟨hc4, hF4, rfl⟩ := hq
  have n12 : ¬ (B2 + 16 = B + 16) := by omega
  have nBB : ¬ B2 = B := by omega
  exact y_vret C rfl dX5_copyFrom_52 (⟨⟨fun i hi => by
        rw [hF4 _ (by omega), hF3 _ (by omega), hF2 _ (by omega), hF1 _ (by omega)]
        have hz : i = 0 := by omega
        rcases hz with rfl <;> simp [ups, upd, n12, nBB],
      fun i hi => by
        rw [hF4 _ (by omega), hF3 _ (by omega), hF2 _ (by omega), hc1 i hi]
        simp [ups, n12, nBB, show ¬ (B2 + 17 = B + 16) by omega],
      fun i hi => by
        rw [hF4 _ (by omega), hF3 _ (by omega), hc2 i hi, hF1 _ (by omega)]
        simp [ups, n12, nBB, show ¬ (B2 + 18 = B + 16) by omega],
      fun i hi => by
        rw [hF4 _ (by omega), hc3 i hi, hF2 _ (by omega), hF1 _ (by omega)]
        simp [ups, n12, nBB, show ¬ (B2 + 19 = B + 16) by omega],
      fun i hi => by
        rw [hc4 i hi, hF3 _ (by omega), hF2 _ (by omega), hF1 _ (by omega)]
        simp [ups, n12, nBB, show ¬ (B2 + 20 = B + 16) by omega]⟩,
      fun a ha => by
        have ha : ¬ (B + 16 ≤ a ∧ a ≤ B + 20) := ha
        rw [hF4 _ (show ¬ a = _ by omega), hF3 _ (show ¬ a = _ by omega), hF2 _ (show ¬ a = _ by omega), hF1 _ (show ¬ a = _ by omega)]
        simp [ups, show ¬ a = B + 16 by omega], rfl⟩)
set_option maxHeartbeats 4000000 in
set_option maxRecDepth 100000 in
theorem e_X1_copyFrom {B B2 : Nat} (hB : isW B) (hB2 : isW B2) (hBB : B + 27 ≤ B2 ∨ B2 + 27 ≤ B) (σ : xS) (τ : xT) : Xv mX1_copyFrom [.ref (B + 21), .ref (B2 + 21)] σ τ (fun σ1 τ1 => ((∀ i, i < 1 → σ1 (B + 21) i = σ (B2 + 21) i) ∧ (∀ i, i < 20 → σ1 (B + 22) i = σ (B2 + 22) i) ∧ (∀ i, i < 20 → σ1 (B + 23) i = σ (B2 + 23) i) ∧ (∀ i, i < 20 → σ1 (B + 24) i = σ (B2 + 24) i) ∧ (∀ i, i < 20 → σ1 (B + 25) i = σ (B2 + 25) i)) ∧ Fr (fun a => B + 21 ≤ a ∧ a ≤ B + 25) σ σ1 ∧ τ = τ1) := by
  have hle := isW_le hB
  have hle2 := isW_le hB2
  refine Xv_mk (L := [some (.ref (B + 21)), some (.ref (B2 + 21))]) (by decide) rfl (Nat.le_of_ble_eq_true rfl) rfl (fun x C => ?_)
  refine y_aload_n C dX1_copyFrom_0 rfl ?_
  refine y_aload_n C dX1_copyFrom_1 rfl ?_
  refine g_X1_count C hB2 dX1_copyFrom_2 (by decide +kernel) (by decide +kernel) ?_
  refine p_X1_count C hB dX1_copyFrom_5 (by decide +kernel) (by decide +kernel) ?_
  refine y_aload_n C dX1_copyFrom_8 rfl ?_
  refine g_X1_minute C hB2 dX1_copyFrom_9 (by decide +kernel) (by decide +kernel) ?_
  refine y_aload_n C dX1_copyFrom_12 rfl ?_
  refine g_X1_minute C hB dX1_copyFrom_13 (by decide +kernel) (by decide +kernel) ?_
  refine y_callNv C (e_X8_copyRow _ _ (B2 + 22) (B + 22) 20 (by omega) (by omega) (xSH_W hB2 22 (by decide)) (xSH_W hB 22 (by decide)) (by decide)) dX1_copyFrom_16 rfl gX1_copyFrom_X8_copyRow_n28 rfl (by decide +kernel) (by decide +kernel) (by decide +kernel) qX8_copyRow ⟨rfl, rfl⟩ ⟨Nat.le_of_ble_eq_true rfl, Nat.le_of_ble_eq_true rfl⟩ rfl (Nat.le_of_ble_eq_true rfl) ⟨Nat.zero_le _, Nat.zero_le _⟩ (fun σ1 τ1 hq => ?_)
  obtain ⟨hc1, hF1, rfl⟩ := hq
  refine y_aload_n C dX1_copyFrom_19 rfl ?_
  refine g_X1_kind C hB2 dX1_copyFrom_20 (by decide +kernel) (by decide +kernel) ?_
  refine y_aload_n C dX1_copyFrom_23 rfl ?_
  refine g_X1_kind C hB dX1_copyFrom_24 (by decide +kernel) (by decide +kernel) ?_
  refine y_callNv C (e_X8_copyRow _ _ (B2 + 23) (B + 23) 20 (by omega) (by omega) (xSH_W hB2 23 (by decide)) (xSH_W hB 23 (by decide)) (by decide)) dX1_copyFrom_27 rfl gX1_copyFrom_X8_copyRow_n28 rfl (by decide +kernel) (by decide +kernel) (by decide +kernel) qX8_copyRow ⟨rfl, rfl⟩ ⟨Nat.le_of_ble_eq_true rfl, Nat.le_of_ble_eq_true rfl⟩ rfl (Nat.le_of_ble_eq_true rfl) ⟨Nat.zero_le _, Nat.zero_le _⟩ (fun σ2 τ2 hq => ?_)
  obtain ⟨hc2, hF2, rfl⟩ := hq
  refine y_aload_n C dX1_copyFrom_30 rfl ?_
  refine g_X1_a C hB2 dX1_copyFrom_31 (by decide +kernel) (by decide +kernel) ?_
  refine y_aload_n C dX1_copyFrom_34 rfl ?_
  refine g_X1_a C hB dX1_copyFrom_35 (by decide +kernel) (by decide +kernel) ?_
  refine y_callNv C (e_X8_copyRow _ _ (B2 + 24) (B + 24) 20 (by omega) (by omega) (xSH_W hB2 24 (by decide)) (xSH_W hB 24 (by decide)) (by decide)) dX1_copyFrom_38 rfl gX1_copyFrom_X8_copyRow_n28 rfl (by decide +kernel) (by decide +kernel) (by decide +kernel) qX8_copyRow ⟨rfl, rfl⟩ ⟨Nat.le_of_ble_eq_true rfl, Nat.le_of_ble_eq_true rfl⟩ rfl (Nat.le_of_ble_eq_true rfl) ⟨Nat.zero_le _, Nat.zero_le _⟩ (fun σ3 τ3 hq => ?_)
  obtain ⟨hc3, hF3, rfl⟩ := hq
  refine y_aload_n C dX1_copyFrom_41 rfl ?_
  refine g_X1_b C hB2 dX1_copyFrom_42 (by decide +kernel) (by decide +kernel) ?_
  refine y_aload_n C dX1_copyFrom_45 rfl ?_
  refine g_X1_b C hB dX1_copyFrom_46 (by decide +kernel) (by decide +kernel) ?_
  refine y_callNv C (e_X8_copyRow _ _ (B2 + 25) (B + 25) 20 (by omega) (by omega) (xSH_W hB2 25 (by decide)) (xSH_W hB 25 (by decide)) (by decide)) dX1_copyFrom_49 rfl gX1_copyFrom_X8_copyRow_n28 rfl (by decide +kernel) (by decide +kernel) (by decide +kernel) qX8_copyRow ⟨rfl, rfl⟩ ⟨Nat.le_of_ble_eq_true rfl, Nat.le_of_ble_eq_true rfl⟩ rfl (Nat.le_of_ble_eq_true rfl) ⟨Nat.zero_le _, Nat.zero_le _⟩ (fun σ4 τ4 hq => ?_)
  obtain ⟨hc4, hF4, rfl⟩ := hq
  have n12 : ¬ (B2 + 21 = B + 21) := by omega
  have nBB : ¬ B2 = B := by omega
  exact y_vret C rfl dX1_copyFrom_52 (⟨⟨fun i hi => by
        rw [hF4 _ (by omega), hF3 _ (by omega), hF2 _ (by omega), hF1 _ (by omega)]
        have hz : i = 0 := by omega
        rcases hz with rfl <;> simp [ups, upd, n12, nBB],
      fun i hi => by
        rw [hF4 _ (by omega), hF3 _ (by omega), hF2 _ (by omega), hc1 i hi]
        simp [ups, n12, nBB, show ¬ (B2 + 22 = B + 21) by omega],
      fun i hi => by
        rw [hF4 _ (by omega), hF3 _ (by omega), hc2 i hi, hF1 _ (by omega)]
        simp [ups, n12, nBB, show ¬ (B2 + 23 = B + 21) by omega],
      fun i hi => by
        rw [hF4 _ (by omega), hc3 i hi, hF2 _ (by omega), hF1 _ (by omega)]
        simp [ups, n12, nBB, show ¬ (B2 + 24 = B + 21) by omega],
      fun i hi => by
        rw [hc4 i hi, hF3 _ (by omega), hF2 _ (by omega), hF1 _ (by omega)]
        simp [ups, n12, nBB, show ¬ (B2 + 25 = B + 21) by omega]⟩,
      fun a ha => by
        have ha : ¬ (B + 21 ≤ a ∧ a ≤ B + 25) := ha
        rw [hF4 _ (show ¬ a = _ by omega), hF3 _ (show ¬ a = _ by omega), hF2 _ (show ¬ a = _ by omega), hF1 _ (show ¬ a = _ by omega)]
        simp [ups, show ¬ a = B + 21 by omega], rfl⟩)
