/-! THE SWITCH'S CALLS: whatever their arguments -/
theorem ok_cA (k : Int32) : okV (cA k) := Or.inr (Or.inr (Or.inr rfl))
theorem ok_cO (k : Int32) : okV (cO k) := Or.inr (Or.inr (Or.inl rfl))
theorem ok_cT (k : Int32) : okV (cT k) := Or.inr (Or.inl rfl)
theorem ok_cOA (k : Int32) : okV (cOA k) := by
  unfold cOA
  split
  · exact Or.inr (Or.inr (Or.inl rfl))
  · exact Or.inr (Or.inr (Or.inr rfl))
theorem ok_cAT (k : Int32) : okV (cAT k) := by
  unfold cAT
  split
  · exact Or.inr (Or.inr (Or.inr rfl))
  · exact Or.inr (Or.inl rfl)
theorem ok_cOAT (k : Int32) : okV (cOAT k) := by
  unfold cOAT
  split
  · exact Or.inr (Or.inr (Or.inl rfl))
  · split
    · exact Or.inr (Or.inr (Or.inr rfl))
    · exact Or.inr (Or.inl rfl)
section XQ
variable {r : Rw} {R ns nr ne t kp Tm : Nat} {qs : Nat → Rw}
theorem nn_begin (G : Gd r R ns nr ne t) : 0 ≤ r 6 := by rw [G.1.1.1.1]; exact nI_pos' (by have := G.1.1.1.2.2; omega)
theorem nn_door (r : Rw) (a b : Nat) : 0 ≤ mDoorI r a b := by rcases mDoorI_01 r a b with h | h <;> rw [h] <;> decide
theorem nn_fuel (G : Gd r R ns nr ne t) {u : Int32} (h : kW u 1 200 = 0) : 0 ≤ (if 200 < r 8 + u then 200 else r 8 + u) := by
  obtain ⟨w, h1, h2, rfl⟩ := with1 200 (by decide) rfl (kW_0 h)
  obtain ⟨f, hf, ef⟩ := rng (m := 200) (by decide) G.1.2.2.2.2.2.1.2.2.2.2.2.1.1 G.1.2.2.2.2.2.1.2.2.2.2.2.1.2
  split
  · decide
  · rw [ef, nI_add]
    exact nI_pos' (by omega)
theorem nn_set (G : Gd r R ns nr ne t) {u v : Int32} (h : kSet u v = 0) : 0 ≤ mNum r u := by
  have h0 := kSet_0 h
  obtain ⟨w, hw, rfl⟩ := with0 5 (by decide) (u := u) rfl (fun z => h0 (can_out v z))
  rw [num_lo r w (by omega)]
  obtain ⟨d0, d2, d3, d4, d5, -, -⟩ := G.1.2.2.2.2.2.1
  have hz : w = 0 ∨ w = 1 ∨ w = 2 ∨ w = 3 ∨ w = 4 ∨ w = 5 := by omega
  rcases hz with rfl | rfl | rfl | rfl | rfl | rfl
  · exact d0.1
  · exact G.2.2.1
  · exact d2.1
  · rcases d3 with e | e <;> rw [e] <;> decide
  · exact d4.1
  · exact d5.1
theorem nn_smoke (G : Gd r R ns nr ne t) {u v : Int32} (h : kRW r u v 0 99999 = 0) : 0 ≤ r (20 + cN u) := by
  have h4 := G.1.1.1.2.2
  obtain ⟨i, hi, rfl⟩ := room_of G.1 (kRW_0 h).1
  rw [cN_nI (by omega)]
  exact (G.1.2.2.2.2.2.2.1 i (by omega)).1.1
theorem nn_mute (G : Gd r R ns nr ne t) {u v : Int32} (h : kRW r u v 0 60 = 0) : 0 ≤ r (28 + cN u) := by
  have h4 := G.1.1.1.2.2
  obtain ⟨i, hi, rfl⟩ := room_of G.1 (kRW_0 h).1
  rw [cN_nI (by omega)]
  exact (G.1.2.2.2.2.2.2.1 i (by omega)).2.2.1
theorem nn_flt (G : Gd r R ns nr ne t) {u v : Int32} (h : kSW r u v 0 2 = 0) : 0 ≤ r (57 + 7 * cN u + 5) := by
  have h8 := G.1.1.2.1.2
  obtain ⟨i, hi, rfl⟩ := sens_of G.1 (kSW_0 h).1
  rw [cN_nI (by omega)]
  exact G.2.2.2.2.2.1 i hi
theorem nn_10 (G : Gd r R ns nr ne t) : 0 ≤ r 10 := by rw [G.1.1.2.1.1]; exact nI_pos' (by have := G.1.1.2.1.2; omega)
theorem nn_11 (G : Gd r R ns nr ne t) : 0 ≤ r 11 := by rw [G.1.1.2.2.1.1]; exact nI_pos' (by have := G.1.1.2.2.1.2; omega)
theorem nn_rem (G : Gd r R ns nr ne t) {u : Int32} (h : kRem r u = 0) : 0 ≤ r 11 - 1 := by
  have h8 := G.1.1.2.2.1.2
  have h0 := kRem_0 h
  rw [G.1.1.2.2.1.1] at h0 ⊢
  obtain ⟨a, ha, rfl⟩ := in_of (n := nr) (by omega) h0
  obtain ⟨m, rfl⟩ : ∃ m, nr = m + 1 := ⟨nr - 1, by omega⟩
  rw [nI_pred]
  exact nI_pos' (by omega)
theorem nn_12 (G : Gd r R ns nr ne t) : 0 ≤ r 12 + 1 := by rw [G.1.1.2.2.2.1.1, nI_1]; exact nI_pos' (by have := G.1.1.2.2.2.1.2; omega)
theorem xq_begin (G : Gd r R ns nr ne t) (hs : Gs Tm kp qs) (ht : t ≤ Tm) (hT : Tm + 200 ≤ 1000000) (u : Int32) : Xq mL_begin [.ref 0, .int u] r kp qs (Tm + 60) := by
  by_cases h : kW u 1 4 = 0
  · exact Xq_of (s_begin G.1 hs.1 u h) ⟨Or.inl (nn_begin G), (gk_begin G (by omega) u h).mono (by omega), (hs.keep (G.k ht)).mono (by omega)⟩
  · exact Xq_of (n_begin G.1 hs.1 u h) ⟨ok_cA _, (G.k ht).mono (by omega), hs.mono (by omega)⟩
theorem xq_setDoor (G : Gd r R ns nr ne t) (hs : Gs Tm kp qs) (ht : t ≤ Tm) (hT : Tm + 200 ≤ 1000000) (u v o : Int32) (ho : o = 0 ∨ o = 1) : Xq mL_setDoor [.ref 0, .int u, .int v, .int o] r kp qs (Tm + 60) := by
  by_cases h : kDoor r u v = 0
  · exact Xq_of (s_setDoor G.1 hs.1 u v o ho h) ⟨Or.inl (nn_door _ _ _), (gk_setDoor G (by omega) u v o h).mono (by omega), (hs.keep (G.k ht)).mono (by omega)⟩
  · exact Xq_of (n_setDoor G.1 hs.1 u v o ho h) ⟨ok_cOA _, (G.k ht).mono (by omega), hs.mono (by omega)⟩
theorem xq_addFuel (G : Gd r R ns nr ne t) (hs : Gs Tm kp qs) (ht : t ≤ Tm) (hT : Tm + 200 ≤ 1000000) (u : Int32) : Xq mL_addFuel [.ref 0, .int u] r kp qs (Tm + 60) := by
  by_cases h : kW u 1 200 = 0
  · exact Xq_of (s_addFuel G.1 hs.1 u h) ⟨Or.inl (nn_fuel G h), (gk_addFuel G (by omega) u h).mono (by omega), (hs.keep (G.k ht)).mono (by omega)⟩
  · exact Xq_of (n_addFuel G.1 hs.1 u h) ⟨ok_cA _, (G.k ht).mono (by omega), hs.mono (by omega)⟩
theorem xq_setTarget (G : Gd r R ns nr ne t) (hs : Gs Tm kp qs) (ht : t ≤ Tm) (hT : Tm + 200 ≤ 1000000) (u : Int32) : Xq mL_setTarget [.ref 0, .int u] r kp qs (Tm + 60) := by
  by_cases h : kW u 0 8 = 0
  · exact Xq_of (s_setTarget G.1 hs.1 u h) ⟨Or.inl (G.1.2.2.2.2.2.1.2.2.2.2.2.2.1), (gk_setTarget G (by omega) u h).mono (by omega), (hs.keep (G.k ht)).mono (by omega)⟩
  · exact Xq_of (n_setTarget G.1 hs.1 u h) ⟨ok_cA _, (G.k ht).mono (by omega), hs.mono (by omega)⟩
theorem xq_set (G : Gd r R ns nr ne t) (hs : Gs Tm kp qs) (ht : t ≤ Tm) (hT : Tm + 200 ≤ 1000000) (u v : Int32) : Xq mL_set [.ref 0, .int u, .int v] r kp qs (Tm + 60) := by
  by_cases h : kSet u v = 0
  · exact Xq_of (s_set G.1 hs.1 u v h) ⟨Or.inl (nn_set G h), (gk_set G (by omega) u v h).mono (by omega), (hs.keep (G.k ht)).mono (by omega)⟩
  · exact Xq_of (n_set G.1 hs.1 u v h) ⟨ok_cA _, (G.k ht).mono (by omega), hs.mono (by omega)⟩
theorem xq_setSmoke (G : Gd r R ns nr ne t) (hs : Gs Tm kp qs) (ht : t ≤ Tm) (hT : Tm + 200 ≤ 1000000) (u v : Int32) : Xq mL_setSmoke [.ref 0, .int u, .int v] r kp qs (Tm + 60) := by
  by_cases h : kRW r u v 0 99999 = 0
  · exact Xq_of (s_setSmoke G.1 hs.1 u v h) ⟨Or.inl (nn_smoke G h), (gk_setSmoke G (by omega) u v h).mono (by omega), (hs.keep (G.k ht)).mono (by omega)⟩
  · exact Xq_of (n_setSmoke G.1 hs.1 u v h) ⟨ok_cOA _, (G.k ht).mono (by omega), hs.mono (by omega)⟩
theorem xq_addSensor (G : Gd r R ns nr ne t) (hs : Gs Tm kp qs) (ht : t ≤ Tm) (hT : Tm + 200 ≤ 1000000) (a b c d e : Int32) : Xq mL_addSensor [.ref 0, .int a, .int b, .int c, .int d, .int e] r kp qs (Tm + 60) := by
  by_cases h : kASe r a b c d e = 0
  · exact Xq_of (s_addSensor G.1 hs.1 a b c d e h) ⟨Or.inl (nn_10 G), (gk_addSensor G (by omega) a b c d e h).mono (by omega), (hs.keep (G.k ht)).mono (by omega)⟩
  · exact Xq_of (n_addSensor G.1 hs.1 a b c d e h) ⟨ok_cOAT _, (G.k ht).mono (by omega), hs.mono (by omega)⟩
theorem xq_setFault (G : Gd r R ns nr ne t) (hs : Gs Tm kp qs) (ht : t ≤ Tm) (hT : Tm + 200 ≤ 1000000) (u v : Int32) : Xq mL_setFault [.ref 0, .int u, .int v] r kp qs (Tm + 60) := by
  by_cases h : kSW r u v 0 2 = 0
  · exact Xq_of (s_setFault G.1 hs.1 u v h) ⟨Or.inl (nn_flt G h), (gk_setFault G (by omega) u v h).mono (by omega), (hs.keep (G.k ht)).mono (by omega)⟩
  · exact Xq_of (n_setFault G.1 hs.1 u v h) ⟨ok_cOA _, (G.k ht).mono (by omega), hs.mono (by omega)⟩
theorem xq_addRule (G : Gd r R ns nr ne t) (hs : Gs Tm kp qs) (ht : t ≤ Tm) (hT : Tm + 200 ≤ 1000000) (k a b c : Int32) : Xq mL_addRule [.ref 0, .int k, .int a, .int b, .int c] r kp qs (Tm + 60) := by
  by_cases h : kARu r k a b c = 0
  · exact Xq_of (s_addRule G.1 hs.1 k a b c h) ⟨Or.inl (nn_11 G), (gk_addRule G (by omega) k a b c h).mono (by omega), (hs.keep (G.k ht)).mono (by omega)⟩
  · exact Xq_of (n_addRule G.1 hs.1 k a b c h) ⟨ok_cOAT _, (G.k ht).mono (by omega), hs.mono (by omega)⟩
theorem xq_removeRule (G : Gd r R ns nr ne t) (hs : Gs Tm kp qs) (ht : t ≤ Tm) (hT : Tm + 200 ≤ 1000000) (u : Int32) : Xq mL_removeRule [.ref 0, .int u] r kp qs (Tm + 60) := by
  by_cases h : kRem r u = 0
  · exact Xq_of (s_removeRule G.1 hs.1 u h) ⟨Or.inl (nn_rem G h), (gk_removeRule G (by omega) u h).mono (by omega), (hs.keep (G.k ht)).mono (by omega)⟩
  · exact Xq_of (n_removeRule G.1 hs.1 u h) ⟨ok_cO _, (G.k ht).mono (by omega), hs.mono (by omega)⟩
theorem xq_addEvent (G : Gd r R ns nr ne t) (hs : Gs Tm kp qs) (ht : t ≤ Tm) (hT : Tm + 200 ≤ 1000000) (m k a b : Int32) : Xq mL_addEvent [.ref 0, .int m, .int k, .int a, .int b] r kp qs (Tm + 60) := by
  by_cases h : kAEv r m k a b = 0
  · exact Xq_of (s_addEvent G.1 hs.1 m k a b h) ⟨Or.inl (nn_12 G), (gk_addEvent G (by omega) m k a b h).mono (by omega), (hs.keep (G.k ht)).mono (by omega)⟩
  · exact Xq_of (n_addEvent G.1 hs.1 m k a b h) ⟨ok_cAT _, (G.k ht).mono (by omega), hs.mono (by omega)⟩
theorem xq_mute (G : Gd r R ns nr ne t) (hs : Gs Tm kp qs) (ht : t ≤ Tm) (hT : Tm + 200 ≤ 1000000) (u v : Int32) : Xq mL_mute [.ref 0, .int u, .int v] r kp qs (Tm + 60) := by
  by_cases h : kRW r u v 0 60 = 0
  · exact Xq_of (s_mute G.1 hs.1 u v h) ⟨Or.inl (nn_mute G h), (gk_mute G (by omega) u v h).mono (by omega), (hs.keep (G.k ht)).mono (by omega)⟩
  · exact Xq_of (n_mute G.1 hs.1 u v h) ⟨ok_cOA _, (G.k ht).mono (by omega), hs.mono (by omega)⟩
theorem xq_pass (G : Gd r R ns nr ne t) (hs : Gs Tm kp qs) (ht : t ≤ Tm) (hT : Tm + 200 ≤ 1000000) (u : Int32) : Xq mL_pass [.ref 0, .int u] r kp qs (Tm + 60) := by
  by_cases h : kW u 1 60 = 0
  · exact Xq_of (s_pass G.1 hs.1 G.2.1 (by omega) u h) ⟨Or.inl (pass_nn G (by omega) h), (gk_pass G (by omega) u h).mono (by omega), (hs.keep (G.k ht)).mono (by omega)⟩
  · exact Xq_of (n_pass G.1 hs.1 G.2.1 (by omega) u h) ⟨ok_cA _, (G.k ht).mono (by omega), hs.mono (by omega)⟩
theorem xq_undo (G : Gd r R ns nr ne t) (hs : Gs Tm kp qs) (ht : t ≤ Tm) : Xq mL_undo [.ref 0] r kp qs (Tm + 60) := by
  by_cases h : kUnd kp = 0
  · have h1 := kUnd_0 h
    have h4 := hs.1
    exact Xq_of (s_undo G.1 hs.1 hs.jam h) ⟨Or.inl (nI_pos' (by omega)), (hs.2 (kp - 1) (by omega)).mono (by omega), hs.back.mono (by omega)⟩
  · exact Xq_of (n_undo G.1 hs.1 hs.jam h) ⟨ok_cT _, (G.k ht).mono (by omega), hs.mono (by omega)⟩
end XQ
