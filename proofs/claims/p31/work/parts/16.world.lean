theorem xv_mono {l : Launch} {y : MethodName} {ws : List Cond} {rm : Room} {Pc : Array Value → State → Prop} {Q Q' : xS → xT → Prop} {B : xS × xT → State → Prop} {A free : Nat → Prop} {mc ms : Nat} (h : Met l y ws rm Pc (va_Qv (S := xS × xT) (fun u => Q u.1 u.2) B A) mc ms free) (hQ : ∀ σ1 τ1, Q σ1 τ1 → Q' σ1 τ1) : Met l y ws rm Pc (va_Qv (S := xS × xT) (fun u => Q' u.1 u.2) B A) mc ms free := by
  intro p e ha hc hk s m args below hf happ hP hK
  obtain ⟨k, o, h1, h2, h3, ⟨⟨⟨u, q1, q2, q3⟩, q4⟩, q5⟩⟩ := h p e ha hc hk s m args below hf happ hP hK
  exact ⟨k, o, h1, h2, h3, ⟨⟨u, q1, hQ _ _ q2, q3⟩, q4⟩, q5⟩
theorem Xv_mono {M : xM} {as : List Value} {σ : xS} {τ : xT} {Q Q' : xS → xT → Prop} (h : Xv M as σ τ Q) (hQ : ∀ σ1 τ1, Q σ1 τ1 → Q' σ1 τ1) : Xv M as σ τ Q' := fun l bs D cA => xv_mono (Q := Q) (h l bs D cA) hQ
theorem Xi_mono {M : xM} {as : List Value} {σ : xS} {τ : xT} {Q Q' : Int32 → xS → xT → Prop} (h : Xi M as σ τ Q) (hQ : ∀ v σ1 τ1, Q v σ1 τ1 → Q' v σ1 τ1) : Xi M as σ τ Q' := by
  intro l bs D cA p e ha hc hk s m args below hf happ hP hK
  obtain ⟨k, o, h1, h2, h3, ⟨⟨⟨v, u, q1, q2, q3⟩, q4⟩, q5⟩⟩ := h l bs D cA p e ha hc hk s m args below hf happ hP hK
  exact ⟨k, o, h1, h2, h3, ⟨⟨v, u, q1, hQ _ _ _ q2, q3⟩, q4⟩, q5⟩
theorem nD_out {d : Nat} (h : 27 ≤ d) : nD.getD d 0 = 0 := by
  rw [List.getD_eq_getElem?_getD, List.getElem?_eq_none (show nD.length ≤ d from h)]
  rfl
set_option maxHeartbeats 4000000 in
set_option maxRecDepth 100000 in
theorem e_X7_copyFrom {B B2 : Nat} (hB : isW B) (hB2 : isW B2) (hBB : B + 27 ≤ B2 ∨ B2 + 27 ≤ B) (σ : xS) (τ : xT) (hz3 : σ (B2 + 4) 5 = 0 ∨ σ (B2 + 4) 5 = 1) : Xv mX7_copyFrom [.ref B, .ref B2] σ τ (fun σ1 τ1 => (∀ d i, i < nD.getD d 0 → σ1 (B + d) i = σ (B2 + d) i) ∧ σ1 (B + 1) 2 = σ (B2 + 1) 2 ∧ Fr (wS B) σ σ1 ∧ τ = τ1) := by
  have hle := isW_le hB
  have hle2 := isW_le hB2
  have nB4 : ¬ B2 + 4 = B := by omega
  refine Xv_mk (L := [some (.ref B), some (.ref B2)]) (by decide) rfl (Nat.le_of_ble_eq_true rfl) rfl (fun x C => ?_)
  refine y_aload_n C dX7_copyFrom_0 rfl ?_
  refine y_aload_n C dX7_copyFrom_1 rfl ?_
  refine g_X7_minute C hB2 dX7_copyFrom_2 (by decide +kernel) (by decide +kernel) ?_
  refine p_X7_minute C hB dX7_copyFrom_5 (by decide +kernel) (by decide +kernel) ?_
  refine y_aload_n C dX7_copyFrom_8 rfl ?_
  refine g_X7_house C hB dX7_copyFrom_9 (by decide +kernel) (by decide +kernel) ?_
  refine y_aload_n C dX7_copyFrom_12 rfl ?_
  refine g_X7_house C hB2 dX7_copyFrom_13 (by decide +kernel) (by decide +kernel) ?_
  refine y_callVv C (e_X3_copyFrom hB hB2 hBB _ _) dX7_copyFrom_16 rfl gX7_copyFrom_X3_copyFrom rfl (is_X3 hB) ⟨rfl, qX3_copyFrom⟩ ⟨rfl, rfl⟩ ⟨Nat.le_of_ble_eq_true rfl, Nat.le_of_ble_eq_true rfl⟩ rfl (Nat.le_of_ble_eq_true rfl) ⟨Nat.zero_le _, Nat.zero_le _⟩ (fun σ1 τ1 hq => ?_)
  obtain ⟨hc1, hF1, rfl⟩ := hq
  refine y_aload_n C dX7_copyFrom_19 rfl ?_
  refine g_X7_hearth C hB dX7_copyFrom_20 (by decide +kernel) (by decide +kernel) ?_
  refine y_aload_n C dX7_copyFrom_23 rfl ?_
  refine g_X7_hearth C hB2 dX7_copyFrom_24 (by decide +kernel) (by decide +kernel) ?_
  refine y_callVv C (e_X2_copyFrom hB hB2 hBB _ _ (by rw [hF1 _ (by omega)]; simp only [ups, if_neg nB4]; exact hz3)) dX7_copyFrom_27 rfl gX7_copyFrom_X2_copyFrom rfl (is_X2 hB) ⟨rfl, qX2_copyFrom⟩ ⟨rfl, rfl⟩ ⟨Nat.le_of_ble_eq_true rfl, Nat.le_of_ble_eq_true rfl⟩ rfl (Nat.le_of_ble_eq_true rfl) ⟨Nat.zero_le _, Nat.zero_le _⟩ (fun σ2 τ2 hq => ?_)
  obtain ⟨hc2, hF2, rfl⟩ := hq
  refine y_aload_n C dX7_copyFrom_30 rfl ?_
  refine g_X7_sensors C hB dX7_copyFrom_31 (by decide +kernel) (by decide +kernel) ?_
  refine y_aload_n C dX7_copyFrom_34 rfl ?_
  refine g_X7_sensors C hB2 dX7_copyFrom_35 (by decide +kernel) (by decide +kernel) ?_
  refine y_callVv C (e_X6_copyFrom hB hB2 hBB _ _) dX7_copyFrom_38 rfl gX7_copyFrom_X6_copyFrom rfl (is_X6 hB) ⟨rfl, qX6_copyFrom⟩ ⟨rfl, rfl⟩ ⟨Nat.le_of_ble_eq_true rfl, Nat.le_of_ble_eq_true rfl⟩ rfl (Nat.le_of_ble_eq_true rfl) ⟨Nat.zero_le _, Nat.zero_le _⟩ (fun σ3 τ3 hq => ?_)
  obtain ⟨hc3, hF3, rfl⟩ := hq
  refine y_aload_n C dX7_copyFrom_41 rfl ?_
  refine g_X7_alarms C hB dX7_copyFrom_42 (by decide +kernel) (by decide +kernel) ?_
  refine y_aload_n C dX7_copyFrom_45 rfl ?_
  refine g_X7_alarms C hB2 dX7_copyFrom_46 (by decide +kernel) (by decide +kernel) ?_
  refine y_callVv C (e_X0_copyFrom hB hB2 hBB _ _) dX7_copyFrom_49 rfl gX7_copyFrom_X0_copyFrom rfl (is_X0 hB) ⟨rfl, qX0_copyFrom⟩ ⟨rfl, rfl⟩ ⟨Nat.le_of_ble_eq_true rfl, Nat.le_of_ble_eq_true rfl⟩ rfl (Nat.le_of_ble_eq_true rfl) ⟨Nat.zero_le _, Nat.zero_le _⟩ (fun σ4 τ4 hq => ?_)
  obtain ⟨hc4, hF4, rfl⟩ := hq
  refine y_aload_n C dX7_copyFrom_52 rfl ?_
  refine g_X7_rules C hB dX7_copyFrom_53 (by decide +kernel) (by decide +kernel) ?_
  refine y_aload_n C dX7_copyFrom_56 rfl ?_
  refine g_X7_rules C hB2 dX7_copyFrom_57 (by decide +kernel) (by decide +kernel) ?_
  refine y_callVv C (e_X5_copyFrom hB hB2 hBB _ _) dX7_copyFrom_60 rfl gX7_copyFrom_X5_copyFrom rfl (is_X5 hB) ⟨rfl, qX5_copyFrom⟩ ⟨rfl, rfl⟩ ⟨Nat.le_of_ble_eq_true rfl, Nat.le_of_ble_eq_true rfl⟩ rfl (Nat.le_of_ble_eq_true rfl) ⟨Nat.zero_le _, Nat.zero_le _⟩ (fun σ5 τ5 hq => ?_)
  obtain ⟨hc5, hF5, rfl⟩ := hq
  refine y_aload_n C dX7_copyFrom_63 rfl ?_
  refine g_X7_events C hB dX7_copyFrom_64 (by decide +kernel) (by decide +kernel) ?_
  refine y_aload_n C dX7_copyFrom_67 rfl ?_
  refine g_X7_events C hB2 dX7_copyFrom_68 (by decide +kernel) (by decide +kernel) ?_
  refine y_callVv C (e_X1_copyFrom hB hB2 hBB _ _) dX7_copyFrom_71 rfl gX7_copyFrom_X1_copyFrom rfl (is_X1 hB) ⟨rfl, qX1_copyFrom⟩ ⟨rfl, rfl⟩ ⟨Nat.le_of_ble_eq_true rfl, Nat.le_of_ble_eq_true rfl⟩ rfl (Nat.le_of_ble_eq_true rfl) ⟨Nat.zero_le _, Nat.zero_le _⟩ (fun σ6 τ6 hq => ?_)
  obtain ⟨hc6, hF6, rfl⟩ := hq
  refine y_aload_n C dX7_copyFrom_74 rfl ?_
  refine g_X7_counts C hB2 dX7_copyFrom_75 (by decide +kernel) (by decide +kernel) ?_
  refine y_aload_n C dX7_copyFrom_78 rfl ?_
  refine g_X7_counts C hB dX7_copyFrom_79 (by decide +kernel) (by decide +kernel) ?_
  refine y_callNv C (e_X8_copyRow _ _ (B2 + 26) (B + 26) 6 (by omega) (by omega) (xSH_W hB2 26 (by decide)) (xSH_W hB 26 (by decide)) (by decide)) dX7_copyFrom_82 rfl gX7_copyFrom_X8_copyRow_n92 rfl (by decide +kernel) (by decide +kernel) (by decide +kernel) qX8_copyRow ⟨rfl, rfl⟩ ⟨Nat.le_of_ble_eq_true rfl, Nat.le_of_ble_eq_true rfl⟩ rfl (Nat.le_of_ble_eq_true rfl) ⟨Nat.zero_le _, Nat.zero_le _⟩ (fun σ7 τ7 hq => ?_)
  obtain ⟨hc7, hF7, rfl⟩ := hq
  exact y_vret C rfl dX7_copyFrom_85 (⟨fun d i hi => by
      have hd : d < 27 := by
        rcases Nat.lt_or_ge d 27 with q | q
        · exact q
        · have : nD.getD d 0 = 0 := nD_out q
          omega
      have hz : d = 0 ∨ d = 1 ∨ d = 2 ∨ d = 3 ∨ d = 4 ∨ d = 5 ∨ d = 6 ∨ d = 7 ∨ d = 8 ∨ d = 9 ∨ d = 10 ∨ d = 11 ∨ d = 12 ∨ d = 13 ∨ d = 14 ∨ d = 15 ∨ d = 16 ∨ d = 17 ∨ d = 18 ∨ d = 19 ∨ d = 20 ∨ d = 21 ∨ d = 22 ∨ d = 23 ∨ d = 24 ∨ d = 25 ∨ d = 26 := by omega
      rcases hz with rfl | rfl | rfl | rfl | rfl | rfl | rfl | rfl | rfl | rfl | rfl | rfl | rfl | rfl | rfl | rfl | rfl | rfl | rfl | rfl | rfl | rfl | rfl | rfl | rfl | rfl | rfl
      · have hi0 : i = 0 := Nat.lt_one_iff.mp hi
        subst hi0
        show σ7 (B + 0) 0 = σ (B2 + 0) 0
        rw [hF7 _ (by omega), hF6 _ (by omega), hF5 _ (by omega), hF4 _ (by omega), hF3 _ (by omega), hF2 _ (by omega), hF1 _ (by omega)]
        simp [ups, upd]
      · rw [hF7 _ (by omega), hF6 _ (by omega), hF5 _ (by omega), hF4 _ (by omega), hF3 _ (by omega), hF2 _ (by omega), hc1.1 i hi]
        simp [ups, show ¬ B2 + 1 = B by omega]
      · rw [hF7 _ (by omega), hF6 _ (by omega), hF5 _ (by omega), hF4 _ (by omega), hF3 _ (by omega), hF2 _ (by omega), hc1.2.1 i hi]
        simp [ups, show ¬ B2 + 2 = B by omega]
      · exact absurd hi (Nat.not_lt_zero _)
      · rw [hF7 _ (by omega), hF6 _ (by omega), hF5 _ (by omega), hF4 _ (by omega), hF3 _ (by omega), hc2 i hi, hF1 _ (by omega)]
        simp [ups, show ¬ B2 + 4 = B by omega]
      · rw [hF7 _ (by omega), hF6 _ (by omega), hF5 _ (by omega), hF4 _ (by omega), hc3.1 i hi, hF2 _ (by omega), hF1 _ (by omega)]
        simp [ups, show ¬ B2 + 5 = B by omega]
      · rw [hF7 _ (by omega), hF6 _ (by omega), hF5 _ (by omega), hF4 _ (by omega), hc3.2.1 i hi, hF2 _ (by omega), hF1 _ (by omega)]
        simp [ups, show ¬ B2 + 6 = B by omega]
      · rw [hF7 _ (by omega), hF6 _ (by omega), hF5 _ (by omega), hF4 _ (by omega), hc3.2.2.1 i hi, hF2 _ (by omega), hF1 _ (by omega)]
        simp [ups, show ¬ B2 + 7 = B by omega]
      · rw [hF7 _ (by omega), hF6 _ (by omega), hF5 _ (by omega), hF4 _ (by omega), hc3.2.2.2.1 i hi, hF2 _ (by omega), hF1 _ (by omega)]
        simp [ups, show ¬ B2 + 8 = B by omega]
      · rw [hF7 _ (by omega), hF6 _ (by omega), hF5 _ (by omega), hF4 _ (by omega), hc3.2.2.2.2.1 i hi, hF2 _ (by omega), hF1 _ (by omega)]
        simp [ups, show ¬ B2 + 9 = B by omega]
      · rw [hF7 _ (by omega), hF6 _ (by omega), hF5 _ (by omega), hF4 _ (by omega), hc3.2.2.2.2.2.1 i hi, hF2 _ (by omega), hF1 _ (by omega)]
        simp [ups, show ¬ B2 + 10 = B by omega]
      · rw [hF7 _ (by omega), hF6 _ (by omega), hF5 _ (by omega), hF4 _ (by omega), hc3.2.2.2.2.2.2.1 i hi, hF2 _ (by omega), hF1 _ (by omega)]
        simp [ups, show ¬ B2 + 11 = B by omega]
      · rw [hF7 _ (by omega), hF6 _ (by omega), hF5 _ (by omega), hF4 _ (by omega), hc3.2.2.2.2.2.2.2 i hi, hF2 _ (by omega), hF1 _ (by omega)]
        simp [ups, show ¬ B2 + 12 = B by omega]
      · rw [hF7 _ (by omega), hF6 _ (by omega), hF5 _ (by omega), hc4.1 i hi, hF3 _ (by omega), hF2 _ (by omega), hF1 _ (by omega)]
        simp [ups, show ¬ B2 + 13 = B by omega]
      · rw [hF7 _ (by omega), hF6 _ (by omega), hF5 _ (by omega), hc4.2.1 i hi, hF3 _ (by omega), hF2 _ (by omega), hF1 _ (by omega)]
        simp [ups, show ¬ B2 + 14 = B by omega]
      · rw [hF7 _ (by omega), hF6 _ (by omega), hF5 _ (by omega), hc4.2.2 i hi, hF3 _ (by omega), hF2 _ (by omega), hF1 _ (by omega)]
        simp [ups, show ¬ B2 + 15 = B by omega]
      · rw [hF7 _ (by omega), hF6 _ (by omega), hc5.1 i hi, hF4 _ (by omega), hF3 _ (by omega), hF2 _ (by omega), hF1 _ (by omega)]
        simp [ups, show ¬ B2 + 16 = B by omega]
      · rw [hF7 _ (by omega), hF6 _ (by omega), hc5.2.1 i hi, hF4 _ (by omega), hF3 _ (by omega), hF2 _ (by omega), hF1 _ (by omega)]
        simp [ups, show ¬ B2 + 17 = B by omega]
      · rw [hF7 _ (by omega), hF6 _ (by omega), hc5.2.2.1 i hi, hF4 _ (by omega), hF3 _ (by omega), hF2 _ (by omega), hF1 _ (by omega)]
        simp [ups, show ¬ B2 + 18 = B by omega]
      · rw [hF7 _ (by omega), hF6 _ (by omega), hc5.2.2.2.1 i hi, hF4 _ (by omega), hF3 _ (by omega), hF2 _ (by omega), hF1 _ (by omega)]
        simp [ups, show ¬ B2 + 19 = B by omega]
      · rw [hF7 _ (by omega), hF6 _ (by omega), hc5.2.2.2.2 i hi, hF4 _ (by omega), hF3 _ (by omega), hF2 _ (by omega), hF1 _ (by omega)]
        simp [ups, show ¬ B2 + 20 = B by omega]
      · rw [hF7 _ (by omega), hc6.1 i hi, hF5 _ (by omega), hF4 _ (by omega), hF3 _ (by omega), hF2 _ (by omega), hF1 _ (by omega)]
        simp [ups, show ¬ B2 + 21 = B by omega]
      · rw [hF7 _ (by omega), hc6.2.1 i hi, hF5 _ (by omega), hF4 _ (by omega), hF3 _ (by omega), hF2 _ (by omega), hF1 _ (by omega)]
        simp [ups, show ¬ B2 + 22 = B by omega]
      · rw [hF7 _ (by omega), hc6.2.2.1 i hi, hF5 _ (by omega), hF4 _ (by omega), hF3 _ (by omega), hF2 _ (by omega), hF1 _ (by omega)]
        simp [ups, show ¬ B2 + 23 = B by omega]
      · rw [hF7 _ (by omega), hc6.2.2.2.1 i hi, hF5 _ (by omega), hF4 _ (by omega), hF3 _ (by omega), hF2 _ (by omega), hF1 _ (by omega)]
        simp [ups, show ¬ B2 + 24 = B by omega]
      · rw [hF7 _ (by omega), hc6.2.2.2.2 i hi, hF5 _ (by omega), hF4 _ (by omega), hF3 _ (by omega), hF2 _ (by omega), hF1 _ (by omega)]
        simp [ups, show ¬ B2 + 25 = B by omega]
      · rw [hc7 i hi, hF6 _ (by omega), hF5 _ (by omega), hF4 _ (by omega), hF3 _ (by omega), hF2 _ (by omega), hF1 _ (by omega)]
        simp [ups, show ¬ B2 + 26 = B by omega]
      , by
      rw [hF7 _ (by omega), hF6 _ (by omega), hF5 _ (by omega), hF4 _ (by omega), hF3 _ (by omega), hF2 _ (by omega), hc1.2.2]
      simp [ups, show ¬ B2 + 1 = B by omega], fun a ha => by
      have ha : ¬ (B ≤ a ∧ a < B + 27) := ha
      rw [hF7 _ (fun q => ha (by have q := q; revert q; dsimp only; omega)), hF6 _ (fun q => ha (by have q := q; revert q; dsimp only; omega)), hF5 _ (fun q => ha (by have q := q; revert q; dsimp only; omega)), hF4 _ (fun q => ha (by have q := q; revert q; dsimp only; omega)), hF3 _ (fun q => ha (by have q := q; revert q; dsimp only; omega)), hF2 _ (fun q => ha (by have q := q; revert q; dsimp only; omega)), hF1 _ (fun q => ha (by have q := q; revert q; dsimp only; omega))]
      simp [ups, show ¬ a = B by omega], rfl⟩)
/-- a world holds another's row then -/
theorem e_copy {B B2 : Nat} (hB : isW B) (hB2 : isW B2) (hBB : B + 27 ≤ B2 ∨ B2 + 27 ≤ B) (σ : xS) (τ : xT) {r : Rw} (hR : Rel σ B2 r) (h3 : r 3 = 0 ∨ r 3 = 1) : Xv mX7_copyFrom [.ref B, .ref B2] σ τ (fun σ1 τ1 => Rel σ1 B r ∧ Fr (wS B) σ σ1 ∧ τ = τ1) := by
  have e3 : σ (B2 + 4) 5 = r 3 := hR.lo 3 (by decide) (by decide)
  exact Xv_mono (e_X7_copyFrom hB hB2 hBB σ τ (by rw [e3]; exact h3)) (fun σ1 τ1 q => ⟨Rel.copy q.1 q.2.1 hR, q.2.2.1, q.2.2.2⟩)
