section YR3
variable {x : xC} {M : xM} {pc k n : Nat} {L : List (Option Value)} {st : List Value} {σ : xS} {τ : xT} {Z : State → Prop}
theorem y_iushr (C : Cx x M) {u v : Int32} (hdg : decode M.2.1 pc = .ok (.iushr, 1)) (kk : Y x (pc + 1) L (.int ((u.toUInt32 >>> (v.toUInt32 &&& Int32.toUInt32 31)).toInt32) :: st) σ τ k n Z) : Y x pc L (.int v :: .int u :: st) σ τ k n Z := by
  obtain ⟨p, l, e, R, s, m, args, below, meth, c, bs, D, cA⟩ := x
  obtain ⟨hx, hb, hr, hml, hown, hts, hlk, hK, hR, hst, hsz⟩ := C
  intro H locs ls hP hS hL
  exact lv_iushr hx hb hdg rfl (kk H locs ls hP hS hL)
theorem y_ldcw (C : Cx x M) {i : Nat} {v : Int32} (hdg : decode M.2.1 pc = .ok (.ldc_w i, 3)) (hc : Cond.constant M.1.cls i v ∈ M.2.2.2.2.1) (kk : Y x (pc + 3) L (.int v :: st) σ τ k n Z) : Y x pc L st σ τ k n Z := by
  obtain ⟨p, l, e, R, s, m, args, below, meth, c, bs, D, cA⟩ := x
  obtain ⟨hx, hb, hr, hml, hown, hts, hlk, hK, hR, hst, hsz⟩ := C
  intro H locs ls hP hS hL
  exact lv_ldcw hx hb hown (hts _ hc) hdg (kk H locs ls hP hS hL)
end YR3
abbrev mJ6_bitCount_0f7a4 : xM := (yJ6_bitCount_0f7a4, cJ6_bitCount_0f7a4, 1, (some .int), wsJ6_bitCount_0f7a4, { frames := 0, cells := 0, slots := 0, locals := 0 })
theorem qJ6_bitCount_0f7a4 : yJ6_bitCount_0f7a4.cls ≠ "java/lang/invoke/MethodHandle" ∧ yJ6_bitCount_0f7a4.cls ≠ "java/lang/invoke/VarHandle" ∧ (parseMethodDescriptor yJ6_bitCount_0f7a4.desc).map (fun d => d.parameters.length) = some 1 := by decide +kernel
def ush (a : Int32) (k : Int32) : Int32 := (a.toUInt32 >>> (k.toUInt32 &&& Int32.toUInt32 31)).toInt32
def bc1 (a : Int32) : Int32 := a - (ush a 1 &&& 1431655765)
def bc2 (a : Int32) : Int32 := (bc1 a &&& 858993459) + (ush (bc1 a) 2 &&& 858993459)
def bc3 (a : Int32) : Int32 := (bc2 a + ush (bc2 a) 4) &&& 252645135
def bc4 (a : Int32) : Int32 := bc3 a + ush (bc3 a) 8
def bc5 (a : Int32) : Int32 := bc4 a + ush (bc4 a) 16
theorem bc_eq8 : ∀ m, m < 256 → bc5 (nI m) &&& 63 = mMny (nI m) 8 := by decide +kernel
theorem bc_eq {a : Int32} (h : ∃ m, m < 256 ∧ a = nI m) : bc5 a &&& 63 = mMny a 8 := by
  obtain ⟨m, hm, rfl⟩ := h
  exact bc_eq8 m hm
set_option maxHeartbeats 4000000 in
set_option maxRecDepth 100000 in
theorem e_J6_bitCount_0f7a4 (σ : xS) (τ : xT) (a : Int32) (ha : ∃ m, m < 256 ∧ a = nI m) : Xi mJ6_bitCount_0f7a4 [.int a] σ τ (fun o σ1 τ1 => o = (mMny a 8) ∧ σ = σ1 ∧ τ = τ1) := by
  refine Xi_mk (L := [some (.int a)]) (by decide) rfl (Nat.le_of_ble_eq_true rfl) rfl (fun x C => ?_)
  refine y_iload_n C dJ6_bitCount_0f7a4_0 rfl ?_
  refine y_iload_n C dJ6_bitCount_0f7a4_1 rfl ?_
  refine y_iconst (v := 1) C dJ6_bitCount_0f7a4_2 (by decide) ?_
  refine y_iushr C dJ6_bitCount_0f7a4_3 ?_
  refine y_ldcw (v := 1431655765) C dJ6_bitCount_0f7a4_4 (by decide +kernel) ?_
  refine y_iand C dJ6_bitCount_0f7a4_7 ?_
  refine y_isub C dJ6_bitCount_0f7a4_8 ?_
  refine y_topE (bc1 a) rfl ?_
  refine y_istore_n C dJ6_bitCount_0f7a4_9 (L' := [_]) (Nat.lt_of_lt_of_le (by decide : (0 : Nat) < 1) (Nat.le_refl _)) rfl ?_
  refine y_iload_n C dJ6_bitCount_0f7a4_10 rfl ?_
  refine y_ldcw (v := 858993459) C dJ6_bitCount_0f7a4_11 (by decide +kernel) ?_
  refine y_iand C dJ6_bitCount_0f7a4_14 ?_
  refine y_iload_n C dJ6_bitCount_0f7a4_15 rfl ?_
  refine y_iconst (v := 2) C dJ6_bitCount_0f7a4_16 (by decide) ?_
  refine y_iushr C dJ6_bitCount_0f7a4_17 ?_
  refine y_ldcw (v := 858993459) C dJ6_bitCount_0f7a4_18 (by decide +kernel) ?_
  refine y_iand C dJ6_bitCount_0f7a4_21 ?_
  refine y_iadd C dJ6_bitCount_0f7a4_22 ?_
  refine y_topE (bc2 a) rfl ?_
  refine y_istore_n C dJ6_bitCount_0f7a4_23 (L' := [_]) (Nat.lt_of_lt_of_le (by decide : (0 : Nat) < 1) (Nat.le_refl _)) rfl ?_
  refine y_iload_n C dJ6_bitCount_0f7a4_24 rfl ?_
  refine y_iload_n C dJ6_bitCount_0f7a4_25 rfl ?_
  refine y_iconst (v := 4) C dJ6_bitCount_0f7a4_26 (by decide) ?_
  refine y_iushr C dJ6_bitCount_0f7a4_27 ?_
  refine y_iadd C dJ6_bitCount_0f7a4_28 ?_
  refine y_ldcw (v := 252645135) C dJ6_bitCount_0f7a4_29 (by decide +kernel) ?_
  refine y_iand C dJ6_bitCount_0f7a4_32 ?_
  refine y_topE (bc3 a) rfl ?_
  refine y_istore_n C dJ6_bitCount_0f7a4_33 (L' := [_]) (Nat.lt_of_lt_of_le (by decide : (0 : Nat) < 1) (Nat.le_refl _)) rfl ?_
  refine y_iload_n C dJ6_bitCount_0f7a4_34 rfl ?_
  refine y_iload_n C dJ6_bitCount_0f7a4_35 rfl ?_
  refine y_bipush (v := 8) C dJ6_bitCount_0f7a4_36 (by decide) ?_
  refine y_iushr C dJ6_bitCount_0f7a4_38 ?_
  refine y_iadd C dJ6_bitCount_0f7a4_39 ?_
  refine y_topE (bc4 a) rfl ?_
  refine y_istore_n C dJ6_bitCount_0f7a4_40 (L' := [_]) (Nat.lt_of_lt_of_le (by decide : (0 : Nat) < 1) (Nat.le_refl _)) rfl ?_
  refine y_iload_n C dJ6_bitCount_0f7a4_41 rfl ?_
  refine y_iload_n C dJ6_bitCount_0f7a4_42 rfl ?_
  refine y_bipush (v := 16) C dJ6_bitCount_0f7a4_43 (by decide) ?_
  refine y_iushr C dJ6_bitCount_0f7a4_45 ?_
  refine y_iadd C dJ6_bitCount_0f7a4_46 ?_
  refine y_topE (bc5 a) rfl ?_
  refine y_istore_n C dJ6_bitCount_0f7a4_47 (L' := [_]) (Nat.lt_of_lt_of_le (by decide : (0 : Nat) < 1) (Nat.le_refl _)) rfl ?_
  refine y_iload_n C dJ6_bitCount_0f7a4_48 rfl ?_
  refine y_bipush (v := 63) C dJ6_bitCount_0f7a4_49 (by decide) ?_
  refine y_iand C dJ6_bitCount_0f7a4_51 ?_
  exact y_iret C rfl dJ6_bitCount_0f7a4_52 (⟨bc_eq ha, rfl, rfl⟩)
set_option maxHeartbeats 4000000 in
set_option maxRecDepth 100000 in
theorem e_X7_isAgreedOn {B : Nat} (hB : isW B) {r : Rw} (σ : xS) (τ : xT) (hR : Rel σ B r) {R ns nr ne t tl : Nat} (I : Inv r R ns nr ne t tl) (a : Int32) : Xi mX7_isAgreedOn [.ref B, .int a] σ τ (fun o σ1 τ1 => o = (mAgrI r a) ∧ σ = σ1 ∧ τ = τ1) := by
  refine Xi_mk (L := [some (.ref B), some (.int a), none]) (by decide) rfl (Nat.le_of_ble_eq_true rfl) rfl (fun x C => ?_)
  refine y_aload_n C dX7_isAgreedOn_0 rfl ?_
  refine g_X7_sensors C hB dX7_isAgreedOn_1 (by decide +kernel) (by decide +kernel) ?_
  refine y_iload_n C dX7_isAgreedOn_4 rfl ?_
  refine y_callVi C (e_X6_votersIn hB _ _ hR I a) dX7_isAgreedOn_5 rfl gX7_isAgreedOn_X6_votersIn rfl (is_X6 hB) ⟨rfl, qX6_votersIn⟩ ⟨rfl, rfl⟩ ⟨Nat.le_of_ble_eq_true rfl, Nat.le_of_ble_eq_true rfl⟩ rfl (Nat.le_of_ble_eq_true rfl) ⟨Nat.zero_le _, Nat.zero_le _⟩ (fun v1 σ1 τ1 hq => ?_)
  obtain ⟨rfl, rfl, rfl⟩ := hq
  refine y_istore_n C dX7_isAgreedOn_8 (L' := [_, _, _]) (Nat.lt_of_lt_of_le (by decide : (2 : Nat) < 3) (Nat.le_refl _)) rfl ?_
  refine y_iload_n C dX7_isAgreedOn_9 rfl ?_
  refine y_callSi C (e_J6_bitCount_0f7a4 _ _ _ (mVts_256 I a)) dX7_isAgreedOn_10 rfl gX7_isAgreedOn_J6_bitCount_0f7a4 rfl qJ6_bitCount_0f7a4 ⟨rfl, rfl⟩ ⟨Nat.le_of_ble_eq_true rfl, Nat.le_of_ble_eq_true rfl⟩ rfl (Nat.le_of_ble_eq_true rfl) ⟨Nat.zero_le _, Nat.zero_le _⟩ (fun v1 σ1 τ1 hq => ?_)
  obtain ⟨rfl, rfl, rfl⟩ := hq
  refine y_iconst (v := 2) C dX7_isAgreedOn_13 (by decide) ?_
  refine y_icmp_lt (t := 39) C dX7_isAgreedOn_14 (by decide) (fun c14 => ?_) (fun c14 => ?_)
  · -- t
    refine y_iconst (v := 0) C dX7_isAgreedOn_39 (by decide) ?_
    exact y_zret C rfl dX7_isAgreedOn_40 (by first | exact Or.inl rfl | exact Or.inr rfl) (⟨by simp only [mAgrI, inv_cs I]; simp only [Int32.lt_iff_toInt_lt, Int32.le_iff_toInt_le] at *; (repeat' split) <;> simp_all <;> omega, rfl, rfl⟩)
  · -- f
    refine y_aload_n C dX7_isAgreedOn_17 rfl ?_
    refine g_X7_sensors C hB dX7_isAgreedOn_18 (by decide +kernel) (by decide +kernel) ?_
    refine y_iload_n C dX7_isAgreedOn_21 rfl ?_
    refine y_callVi C (e_X6_weightOf hB _ _ hR I _ (mVts_256 I a)) dX7_isAgreedOn_22 rfl gX7_isAgreedOn_X6_weightOf rfl (is_X6 hB) ⟨rfl, qX6_weightOf⟩ ⟨rfl, rfl⟩ ⟨Nat.le_of_ble_eq_true rfl, Nat.le_of_ble_eq_true rfl⟩ rfl (Nat.le_of_ble_eq_true rfl) ⟨Nat.zero_le _, Nat.zero_le _⟩ (fun v1 σ1 τ1 hq => ?_)
    obtain ⟨rfl, rfl, rfl⟩ := hq
    refine y_aload_n C dX7_isAgreedOn_25 rfl ?_
    refine g_X7_alarms C hB dX7_isAgreedOn_26 (by decide +kernel) (by decide +kernel) ?_
    refine gR_X0_quorum C hB hR dX7_isAgreedOn_29 (by decide +kernel) (by decide +kernel) ?_
    refine y_icmp_lt (t := 39) C dX7_isAgreedOn_32 (by decide) (fun c32 => ?_) (fun c32 => ?_)
    · -- t
      refine y_iconst (v := 0) C dX7_isAgreedOn_39 (by decide) ?_
      exact y_zret C rfl dX7_isAgreedOn_40 (by first | exact Or.inl rfl | exact Or.inr rfl) (⟨by simp only [mAgrI, inv_cs I]; simp only [Int32.lt_iff_toInt_lt, Int32.le_iff_toInt_le] at *; (repeat' split) <;> simp_all <;> omega, rfl, rfl⟩)
    · -- f
      refine y_iconst (v := 1) C dX7_isAgreedOn_35 (by decide) ?_
      refine y_goto (t := 40) C dX7_isAgreedOn_36 (by decide) ?_
      exact y_zret C rfl dX7_isAgreedOn_40 (by first | exact Or.inl rfl | exact Or.inr rfl) (⟨by simp only [mAgrI, inv_cs I]; simp only [Int32.lt_iff_toInt_lt, Int32.le_iff_toInt_le] at *; (repeat' split) <;> simp_all <;> omega, rfl, rfl⟩)
set_option maxHeartbeats 4000000 in
set_option maxRecDepth 100000 in
theorem e_X7_isExcited {B : Nat} (hB : isW B) {r : Rw} (σ : xS) (τ : xT) (hR : Rel σ B r) {R ns nr ne t tl : Nat} (I : Inv r R ns nr ne t tl) (i : Nat) (hi : i < ns) : Xi mX7_isExcited [.ref B, .int (nI i)] σ τ (fun o σ1 τ1 => o = (mExcI r i) ∧ σ = σ1 ∧ τ = τ1) := by
  have hR4 := I.1.1.2.2
  have hs8 := I.1.2.1.2
  have hr8 := I.1.2.2.1.2
  obtain ⟨p, hp, ep⟩ := I.2.1 i hi
  refine Xi_mk (L := [some (.ref B), some (.int (nI i)), none]) (by decide) rfl (Nat.le_of_ble_eq_true rfl) rfl (fun x C => ?_)
  refine y_aload_n C dX7_isExcited_0 rfl ?_
  refine g_X7_sensors C hB dX7_isExcited_1 (by decide +kernel) (by decide +kernel) ?_
  refine g_X6_threshold C hB dX7_isExcited_4 (by decide +kernel) (by decide +kernel) ?_
  refine y_iload_n C dX7_isExcited_7 rfl ?_
  refine aR C hB hR (57 + 7 * i + 2) 8 i 8 (pl_s _ (by have := I.1.2.1.2; omega) _ (by decide)) (lv_s (by have := I.1.2.1.2; omega) (by decide) (inv_s I hi)) (by decide) rfl (by decide) rfl (by have := I.1.2.1.2; omega) dX7_isExcited_8 ?_
  refine y_istore_n C dX7_isExcited_9 (L' := [_, _, _]) (Nat.lt_of_lt_of_le (by decide : (2 : Nat) < 3) (Nat.le_refl _)) rfl ?_
  refine y_aload_n C dX7_isExcited_10 rfl ?_
  refine g_X7_sensors C hB dX7_isExcited_11 (by decide +kernel) (by decide +kernel) ?_
  refine g_X6_kind C hB dX7_isExcited_14 (by decide +kernel) (by decide +kernel) ?_
  refine y_iload_n C dX7_isExcited_17 rfl ?_
  refine aR C hB hR (57 + 7 * i + 1) 7 i 8 (pl_s _ (by have := I.1.2.1.2; omega) _ (by decide)) (lv_s (by have := I.1.2.1.2; omega) (by decide) (inv_s I hi)) (by decide) rfl (by decide) rfl (by have := I.1.2.1.2; omega) dX7_isExcited_18 ?_
  by_cases w19_0 : r (57 + 7 * i + 1) = 0
  ·
    refine y_lookup (t := 44) (o := 25) C dX7_isExcited_19 (by decide) (by first | (rw [w19_0]; done) | (rw [w19_0]; rfl)) (by decide) ?_
    refine y_aload_n C dX7_isExcited_44 rfl ?_
    refine g_X7_house C hB dX7_isExcited_45 (by decide +kernel) (by decide +kernel) ?_
    refine y_aload_n C dX7_isExcited_48 rfl ?_
    refine g_X7_sensors C hB dX7_isExcited_49 (by decide +kernel) (by decide +kernel) ?_
    refine g_X6_room C hB dX7_isExcited_52 (by decide +kernel) (by decide +kernel) ?_
    refine y_iload_n C dX7_isExcited_55 rfl ?_
    refine aR C hB hR (57 + 7 * i + 0) 6 i 8 (pl_s _ (by have := I.1.2.1.2; omega) _ (by decide)) (lv_s (by have := I.1.2.1.2; omega) (by decide) (inv_s I hi)) (by decide) rfl (by decide) rfl (by have := I.1.2.1.2; omega) dX7_isExcited_56 ?_
    refine y_topE (nI p) ep ?_
    refine y_callVi C (e_X3_smokeIn hB _ _ hR I p hp) dX7_isExcited_57 rfl gX7_isExcited_X3_smokeIn rfl (is_X3 hB) ⟨rfl, qX3_smokeIn⟩ ⟨rfl, rfl⟩ ⟨Nat.le_of_ble_eq_true rfl, Nat.le_of_ble_eq_true rfl⟩ rfl (Nat.le_of_ble_eq_true rfl) ⟨Nat.zero_le _, Nat.zero_le _⟩ (fun v1 σ1 τ1 hq => ?_)
    obtain ⟨rfl, rfl, rfl⟩ := hq
    refine y_iload_n C dX7_isExcited_60 rfl ?_
    refine y_icmp_lt (t := 68) C dX7_isExcited_61 (by decide) (fun c61 => ?_) (fun c61 => ?_)
    · -- t
      refine y_iconst (v := 0) C dX7_isExcited_68 (by decide) ?_
      exact y_zret C rfl dX7_isExcited_69 (by first | exact Or.inl rfl | exact Or.inr rfl) (⟨by unfold mExcI; rw [ep, cN_nI (show p < 2 ^ 31 by omega)]; simp only [Int32.lt_iff_toInt_lt, Int32.le_iff_toInt_le] at *; (repeat' split) <;> simp_all <;> omega, rfl, rfl⟩)
    · -- f
      refine y_iconst (v := 1) C dX7_isExcited_64 (by decide) ?_
      refine y_goto (t := 69) C dX7_isExcited_65 (by decide) ?_
      exact y_zret C rfl dX7_isExcited_69 (by first | exact Or.inl rfl | exact Or.inr rfl) (⟨by unfold mExcI; rw [ep, cN_nI (show p < 2 ^ 31 by omega)]; simp only [Int32.lt_iff_toInt_lt, Int32.le_iff_toInt_le] at *; (repeat' split) <;> simp_all <;> omega, rfl, rfl⟩)
  by_cases w19_1 : r (57 + 7 * i + 1) = 1
  ·
    refine y_lookup (t := 70) (o := 51) C dX7_isExcited_19 (by decide) (by first | (rw [w19_1]; done) | (rw [w19_1]; rfl)) (by decide) ?_
    refine y_aload_n C dX7_isExcited_70 rfl ?_
    refine g_X7_hearth C hB dX7_isExcited_71 (by decide +kernel) (by decide +kernel) ?_
    refine y_callVi C (e_X2_draft hB _ _ hR) dX7_isExcited_74 rfl gX7_isExcited_X2_draft rfl (is_X2 hB) ⟨rfl, qX2_draft⟩ ⟨rfl, rfl⟩ ⟨Nat.le_of_ble_eq_true rfl, Nat.le_of_ble_eq_true rfl⟩ rfl (Nat.le_of_ble_eq_true rfl) ⟨Nat.zero_le _, Nat.zero_le _⟩ (fun v1 σ1 τ1 hq => ?_)
    obtain ⟨rfl, rfl, rfl⟩ := hq
    refine y_iload_n C dX7_isExcited_77 rfl ?_
    refine y_icmp_ge (t := 95) C dX7_isExcited_78 (by decide) (fun c78 => ?_) (fun c78 => ?_)
    · -- t
      refine y_iconst (v := 0) C dX7_isExcited_95 (by decide) ?_
      exact y_zret C rfl dX7_isExcited_96 (by first | exact Or.inl rfl | exact Or.inr rfl) (⟨by unfold mExcI; rw [ep, cN_nI (show p < 2 ^ 31 by omega)]; simp only [Int32.lt_iff_toInt_lt, Int32.le_iff_toInt_le] at *; (repeat' split) <;> simp_all <;> omega, rfl, rfl⟩)
    · -- f
      refine y_aload_n C dX7_isExcited_81 rfl ?_
      refine g_X7_hearth C hB dX7_isExcited_82 (by decide +kernel) (by decide +kernel) ?_
      refine y_callVi C (e_X2_strength hB _ _ hR) dX7_isExcited_85 rfl gX7_isExcited_X2_strength rfl (is_X2 hB) ⟨rfl, qX2_strength⟩ ⟨rfl, rfl⟩ ⟨Nat.le_of_ble_eq_true rfl, Nat.le_of_ble_eq_true rfl⟩ rfl (Nat.le_of_ble_eq_true rfl) ⟨Nat.zero_le _, Nat.zero_le _⟩ (fun v1 σ1 τ1 hq => ?_)
      obtain ⟨rfl, rfl, rfl⟩ := hq
      refine y_if_le (t := 95) C dX7_isExcited_88 (by decide) (fun c88 => ?_) (fun c88 => ?_)
      · -- t
        refine y_iconst (v := 0) C dX7_isExcited_95 (by decide) ?_
        exact y_zret C rfl dX7_isExcited_96 (by first | exact Or.inl rfl | exact Or.inr rfl) (⟨by unfold mExcI; rw [ep, cN_nI (show p < 2 ^ 31 by omega)]; simp only [Int32.lt_iff_toInt_lt, Int32.le_iff_toInt_le] at *; (repeat' split) <;> simp_all <;> omega, rfl, rfl⟩)
      · -- f
        refine y_iconst (v := 1) C dX7_isExcited_91 (by decide) ?_
        refine y_goto (t := 96) C dX7_isExcited_92 (by decide) ?_
        exact y_zret C rfl dX7_isExcited_96 (by first | exact Or.inl rfl | exact Or.inr rfl) (⟨by unfold mExcI; rw [ep, cN_nI (show p < 2 ^ 31 by omega)]; simp only [Int32.lt_iff_toInt_lt, Int32.le_iff_toInt_le] at *; (repeat' split) <;> simp_all <;> omega, rfl, rfl⟩)
  refine y_lookup (t := 97) (o := 78) C dX7_isExcited_19 (by decide) ((lv_osw w19_0 rfl).trans ((lv_osw w19_1 rfl).trans rfl)) (by decide) ?_
  refine y_aload_n C dX7_isExcited_97 rfl ?_
  refine g_X7_hearth C hB dX7_isExcited_98 (by decide +kernel) (by decide +kernel) ?_
  refine gR_X2_warmth C hB hR dX7_isExcited_101 (by decide +kernel) (by decide +kernel) ?_
  refine y_iload_n C dX7_isExcited_104 rfl ?_
  refine y_icmp_lt (t := 112) C dX7_isExcited_105 (by decide) (fun c105 => ?_) (fun c105 => ?_)
  · -- t
    refine y_iconst (v := 0) C dX7_isExcited_112 (by decide) ?_
    exact y_zret C rfl dX7_isExcited_113 (by first | exact Or.inl rfl | exact Or.inr rfl) (⟨by unfold mExcI; rw [ep, cN_nI (show p < 2 ^ 31 by omega)]; simp only [Int32.lt_iff_toInt_lt, Int32.le_iff_toInt_le] at *; (repeat' split) <;> simp_all <;> omega, rfl, rfl⟩)
  · -- f
    refine y_iconst (v := 1) C dX7_isExcited_108 (by decide) ?_
    refine y_goto (t := 113) C dX7_isExcited_109 (by decide) ?_
    exact y_zret C rfl dX7_isExcited_113 (by first | exact Or.inl rfl | exact Or.inr rfl) (⟨by unfold mExcI; rw [ep, cN_nI (show p < 2 ^ 31 by omega)]; simp only [Int32.lt_iff_toInt_lt, Int32.le_iff_toInt_le] at *; (repeat' split) <;> simp_all <;> omega, rfl, rfl⟩)
set_option maxHeartbeats 4000000 in
set_option maxRecDepth 100000 in
theorem e_X7_ruleApplies {B : Nat} (hB : isW B) {r : Rw} (σ : xS) (τ : xT) (hR : Rel σ B r) {R ns nr ne t tl : Nat} (I : Inv r R ns nr ne t tl) (i : Nat) (hi : i < nr) : Xi mX7_ruleApplies [.ref B, .int (nI i)] σ τ (fun o σ1 τ1 => o = (mAppI r i) ∧ σ = σ1 ∧ τ = τ1) := by
  have hR4 := I.1.1.2.2
  have hs8 := I.1.2.1.2
  have hr8 := I.1.2.2.1.2
  obtain ⟨p, hp, ep⟩ := I.2.2.1 i hi
  refine Xi_mk (L := [some (.ref B), some (.int (nI i)), none, none]) (by decide) rfl (Nat.le_of_ble_eq_true rfl) rfl (fun x C => ?_)
  refine y_aload_n C dX7_ruleApplies_0 rfl ?_
  refine g_X7_rules C hB dX7_ruleApplies_1 (by decide +kernel) (by decide +kernel) ?_
  refine g_X5_room C hB dX7_ruleApplies_4 (by decide +kernel) (by decide +kernel) ?_
  refine y_iload_n C dX7_ruleApplies_7 rfl ?_
  refine aR C hB hR (113 + 4 * i + 1) 18 i 8 (pl_r _ (by have := I.1.2.2.1.2; omega) _ (by decide)) (lv_r (by have := I.1.2.2.1.2; omega) (by decide) (inv_r I hi)) (by decide) rfl (by decide) rfl (by have := I.1.2.2.1.2; omega) dX7_ruleApplies_8 ?_
  refine y_topE (nI p) ep ?_
  refine y_istore_n C dX7_ruleApplies_9 (L' := [_, _, _, _]) (Nat.lt_of_lt_of_le (by decide : (2 : Nat) < 4) (Nat.le_refl _)) rfl ?_
  refine y_aload_n C dX7_ruleApplies_10 rfl ?_
  refine g_X7_rules C hB dX7_ruleApplies_11 (by decide +kernel) (by decide +kernel) ?_
  refine g_X5_limit C hB dX7_ruleApplies_14 (by decide +kernel) (by decide +kernel) ?_
  refine y_iload_n C dX7_ruleApplies_17 rfl ?_
  refine aR C hB hR (113 + 4 * i + 2) 19 i 8 (pl_r _ (by have := I.1.2.2.1.2; omega) _ (by decide)) (lv_r (by have := I.1.2.2.1.2; omega) (by decide) (inv_r I hi)) (by decide) rfl (by decide) rfl (by have := I.1.2.2.1.2; omega) dX7_ruleApplies_18 ?_
  refine y_istore_n C dX7_ruleApplies_19 (L' := [_, _, _, _]) (Nat.lt_of_lt_of_le (by decide : (3 : Nat) < 4) (Nat.le_refl _)) rfl ?_
  refine y_aload_n C dX7_ruleApplies_20 rfl ?_
  refine g_X7_rules C hB dX7_ruleApplies_21 (by decide +kernel) (by decide +kernel) ?_
  refine g_X5_kind C hB dX7_ruleApplies_24 (by decide +kernel) (by decide +kernel) ?_
  refine y_iload_n C dX7_ruleApplies_27 rfl ?_
  refine aR C hB hR (113 + 4 * i + 0) 17 i 8 (pl_r _ (by have := I.1.2.2.1.2; omega) _ (by decide)) (lv_r (by have := I.1.2.2.1.2; omega) (by decide) (inv_r I hi)) (by decide) rfl (by decide) rfl (by have := I.1.2.2.1.2; omega) dX7_ruleApplies_28 ?_
  by_cases w29_0 : r (113 + 4 * i + 0) = 0
  ·
    refine y_tableIn (t := 56) C dX7_ruleApplies_29 (by rw [w29_0]; decide) (by rw [w29_0]; decide) (by first | (rw [w29_0]; done) | (rw [w29_0]; rfl)) (by decide) ?_
    refine y_aload_n C dX7_ruleApplies_56 rfl ?_
    refine g_X7_house C hB dX7_ruleApplies_57 (by decide +kernel) (by decide +kernel) ?_
    refine y_iload_n C dX7_ruleApplies_60 rfl ?_
    refine y_callVi C (e_X3_smokeIn hB _ _ hR I p hp) dX7_ruleApplies_61 rfl gX7_ruleApplies_X3_smokeIn rfl (is_X3 hB) ⟨rfl, qX3_smokeIn⟩ ⟨rfl, rfl⟩ ⟨Nat.le_of_ble_eq_true rfl, Nat.le_of_ble_eq_true rfl⟩ rfl (Nat.le_of_ble_eq_true rfl) ⟨Nat.zero_le _, Nat.zero_le _⟩ (fun v1 σ1 τ1 hq => ?_)
    obtain ⟨rfl, rfl, rfl⟩ := hq
    refine y_iload_n C dX7_ruleApplies_64 rfl ?_
    refine y_icmp_lt (t := 72) C dX7_ruleApplies_65 (by decide) (fun c65 => ?_) (fun c65 => ?_)
    · -- t
      refine y_iconst (v := 0) C dX7_ruleApplies_72 (by decide) ?_
      exact y_zret C rfl dX7_ruleApplies_73 (by first | exact Or.inl rfl | exact Or.inr rfl) (⟨by unfold mAppI; rw [ep, cN_nI (show p < 2 ^ 31 by omega)]; simp only [Int32.lt_iff_toInt_lt, Int32.le_iff_toInt_le] at *; (repeat' split) <;> simp_all <;> omega, rfl, rfl⟩)
    · -- f
      refine y_iconst (v := 1) C dX7_ruleApplies_68 (by decide) ?_
      refine y_goto (t := 73) C dX7_ruleApplies_69 (by decide) ?_
      exact y_zret C rfl dX7_ruleApplies_73 (by first | exact Or.inl rfl | exact Or.inr rfl) (⟨by unfold mAppI; rw [ep, cN_nI (show p < 2 ^ 31 by omega)]; simp only [Int32.lt_iff_toInt_lt, Int32.le_iff_toInt_le] at *; (repeat' split) <;> simp_all <;> omega, rfl, rfl⟩)
  by_cases w29_1 : r (113 + 4 * i + 0) = 1
  ·
    refine y_tableIn (t := 74) C dX7_ruleApplies_29 (by rw [w29_1]; decide) (by rw [w29_1]; decide) (by first | (rw [w29_1]; done) | (rw [w29_1]; rfl)) (by decide) ?_
    refine y_aload_n C dX7_ruleApplies_74 rfl ?_
    refine g_X7_hearth C hB dX7_ruleApplies_75 (by decide +kernel) (by decide +kernel) ?_
    refine y_callVi C (e_X2_draft hB _ _ hR) dX7_ruleApplies_78 rfl gX7_ruleApplies_X2_draft rfl (is_X2 hB) ⟨rfl, qX2_draft⟩ ⟨rfl, rfl⟩ ⟨Nat.le_of_ble_eq_true rfl, Nat.le_of_ble_eq_true rfl⟩ rfl (Nat.le_of_ble_eq_true rfl) ⟨Nat.zero_le _, Nat.zero_le _⟩ (fun v1 σ1 τ1 hq => ?_)
    obtain ⟨rfl, rfl, rfl⟩ := hq
    refine y_iload_n C dX7_ruleApplies_81 rfl ?_
    refine y_icmp_ge (t := 89) C dX7_ruleApplies_82 (by decide) (fun c82 => ?_) (fun c82 => ?_)
    · -- t
      refine y_iconst (v := 0) C dX7_ruleApplies_89 (by decide) ?_
      exact y_zret C rfl dX7_ruleApplies_90 (by first | exact Or.inl rfl | exact Or.inr rfl) (⟨by unfold mAppI; rw [ep, cN_nI (show p < 2 ^ 31 by omega)]; simp only [Int32.lt_iff_toInt_lt, Int32.le_iff_toInt_le] at *; (repeat' split) <;> simp_all <;> omega, rfl, rfl⟩)
    · -- f
      refine y_iconst (v := 1) C dX7_ruleApplies_85 (by decide) ?_
      refine y_goto (t := 90) C dX7_ruleApplies_86 (by decide) ?_
      exact y_zret C rfl dX7_ruleApplies_90 (by first | exact Or.inl rfl | exact Or.inr rfl) (⟨by unfold mAppI; rw [ep, cN_nI (show p < 2 ^ 31 by omega)]; simp only [Int32.lt_iff_toInt_lt, Int32.le_iff_toInt_le] at *; (repeat' split) <;> simp_all <;> omega, rfl, rfl⟩)
  by_cases w29_2 : r (113 + 4 * i + 0) = 2
  ·
    refine y_tableIn (t := 91) C dX7_ruleApplies_29 (by rw [w29_2]; decide) (by rw [w29_2]; decide) (by first | (rw [w29_2]; done) | (rw [w29_2]; rfl)) (by decide) ?_
    refine y_aload_n C dX7_ruleApplies_91 rfl ?_
    refine g_X7_house C hB dX7_ruleApplies_92 (by decide +kernel) (by decide +kernel) ?_
    refine y_iload_n C dX7_ruleApplies_95 rfl ?_
    refine y_callVi C (e_X3_isRoom hB _ _ hR _) dX7_ruleApplies_96 rfl gX7_ruleApplies_X3_isRoom rfl (is_X3 hB) ⟨rfl, qX3_isRoom⟩ ⟨rfl, rfl⟩ ⟨Nat.le_of_ble_eq_true rfl, Nat.le_of_ble_eq_true rfl⟩ rfl (Nat.le_of_ble_eq_true rfl) ⟨Nat.zero_le _, Nat.zero_le _⟩ (fun v1 σ1 τ1 hq => ?_)
    obtain ⟨rfl, rfl, rfl⟩ := hq
    refine y_topE 1 (by unfold mRoomI; rw [I.1.1.1, if_pos ⟨nI_pos' (by omega), nI_lt hp (by omega)⟩]) ?_
    refine y_if_eq (t := 117) C dX7_ruleApplies_99 (by decide) (fun c99 => absurd c99 ((by decide))) (fun c99 => ?_)
    refine y_aload_n C dX7_ruleApplies_102 rfl ?_
    refine g_X7_alarms C hB dX7_ruleApplies_103 (by decide +kernel) (by decide +kernel) ?_
    refine y_iload_n C dX7_ruleApplies_106 rfl ?_
    refine y_callVi C (e_X0_soundsIn hB _ _ hR p (by omega)) dX7_ruleApplies_107 rfl gX7_ruleApplies_X0_soundsIn rfl (is_X0 hB) ⟨rfl, qX0_soundsIn⟩ ⟨rfl, rfl⟩ ⟨Nat.le_of_ble_eq_true rfl, Nat.le_of_ble_eq_true rfl⟩ rfl (Nat.le_of_ble_eq_true rfl) ⟨Nat.zero_le _, Nat.zero_le _⟩ (fun v1 σ1 τ1 hq => ?_)
    obtain ⟨rfl, rfl, rfl⟩ := hq
    refine y_if_eq (t := 117) C dX7_ruleApplies_110 (by decide) (fun c110 => ?_) (fun c110 => ?_)
    · -- t
      refine y_iconst (v := 0) C dX7_ruleApplies_117 (by decide) ?_
      exact y_zret C rfl dX7_ruleApplies_118 (by first | exact Or.inl rfl | exact Or.inr rfl) (⟨by unfold mAppI; rw [ep, cN_nI (show p < 2 ^ 31 by omega)]; rcases mAlaI_01 r p with q | q <;> simp_all, rfl, rfl⟩)
    · -- f
      refine y_iconst (v := 1) C dX7_ruleApplies_113 (by decide) ?_
      refine y_goto (t := 118) C dX7_ruleApplies_114 (by decide) ?_
      exact y_zret C rfl dX7_ruleApplies_118 (by first | exact Or.inl rfl | exact Or.inr rfl) (⟨by unfold mAppI; rw [ep, cN_nI (show p < 2 ^ 31 by omega)]; rcases mAlaI_01 r p with q | q <;> simp_all, rfl, rfl⟩)
  refine y_tableOut (t := 119) C dX7_ruleApplies_29 (by have q0 : ¬ (r (113 + 4 * i + 0)).toInt = 0 := lv_neT w29_0 (by decide); have q1 : ¬ (r (113 + 4 * i + 0)).toInt = 1 := lv_neT w29_1 (by decide); have q2 : ¬ (r (113 + 4 * i + 0)).toInt = 2 := lv_neT w29_2 (by decide); omega) (by decide) ?_
  refine y_aload_n C dX7_ruleApplies_119 rfl ?_
  refine g_X7_hearth C hB dX7_ruleApplies_120 (by decide +kernel) (by decide +kernel) ?_
  refine y_callVi C (e_X2_strength hB _ _ hR) dX7_ruleApplies_123 rfl gX7_ruleApplies_X2_strength rfl (is_X2 hB) ⟨rfl, qX2_strength⟩ ⟨rfl, rfl⟩ ⟨Nat.le_of_ble_eq_true rfl, Nat.le_of_ble_eq_true rfl⟩ rfl (Nat.le_of_ble_eq_true rfl) ⟨Nat.zero_le _, Nat.zero_le _⟩ (fun v1 σ1 τ1 hq => ?_)
  obtain ⟨rfl, rfl, rfl⟩ := hq
  refine y_iload_n C dX7_ruleApplies_126 rfl ?_
  refine y_icmp_gt (t := 134) C dX7_ruleApplies_127 (by decide) (fun c127 => ?_) (fun c127 => ?_)
  · -- t
    refine y_iconst (v := 0) C dX7_ruleApplies_134 (by decide) ?_
    exact y_zret C rfl dX7_ruleApplies_135 (by first | exact Or.inl rfl | exact Or.inr rfl) (⟨by unfold mAppI; rw [ep, cN_nI (show p < 2 ^ 31 by omega)]; simp only [Int32.lt_iff_toInt_lt, Int32.le_iff_toInt_le] at *; (repeat' split) <;> simp_all <;> omega, rfl, rfl⟩)
  · -- f
    refine y_iconst (v := 1) C dX7_ruleApplies_130 (by decide) ?_
    refine y_goto (t := 135) C dX7_ruleApplies_131 (by decide) ?_
    exact y_zret C rfl dX7_ruleApplies_135 (by first | exact Or.inl rfl | exact Or.inr rfl) (⟨by unfold mAppI; rw [ep, cN_nI (show p < 2 ^ 31 by omega)]; simp only [Int32.lt_iff_toInt_lt, Int32.le_iff_toInt_le] at *; (repeat' split) <;> simp_all <;> omega, rfl, rfl⟩)
theorem y_lo2 {x : xC} {pc k n : Nat} {v : Option Value} {w : Value} {st : List Value} {σ : xS} {τ : xT} {Z : State → Prop} (h : Y x pc [v, none] st σ τ k n Z) : Y x pc [v, some w] st σ τ k n Z := by
  obtain ⟨p, l, e, R, s, m, args, below, meth, c, bs, D, cA⟩ := x
  intro H locs ls hP hS hL
  refine h H locs ls hP hS ⟨hL.1, hL.2.1, fun i u hi => hL.2.2 i u ?_⟩
  match i, hi with
  | 0, hi => exact hi
  | 1, hi => cases hi
  | i + 2, hi => cases hi
set_option maxHeartbeats 4000000 in
set_option maxRecDepth 100000 in
theorem l_X7_firstRule {x : xC} (C : Cx x mX7_firstRule) {B : Nat} (hB : isW B) {r : Rw} (σ : xS) (τ : xT) (hR : Rel σ B r) {R ns nr ne t tl : Nat} (I : Inv r R ns nr ne t tl) {Z : State → Prop} (kx : ∀ a : Int32, ∀ pc9 : Nat, (pc9 = 22 ∨ pc9 = 30) → a = mFst r → Y x pc9 [some (.ref B), none] [.int a] σ τ 0 0 Z) : ∀ n k : Nat, k + n = nr → mFs r k n = mFst r → Y x 2 [some (.ref B), some (.int (nI k))] [] σ τ 0 0 Z := by
  intro n
  induction n with
  | zero =>
    intro k hk
    intro hf
    simp only [mFs] at hf
    refine y_iload_n C dX7_firstRule_2 rfl ?_
    refine y_aload_n C dX7_firstRule_3 rfl ?_
    refine g_X7_rules C hB dX7_firstRule_4 (by decide +kernel) (by decide +kernel) ?_
    refine gR_X5_count C hB hR dX7_firstRule_7 (by decide +kernel) (by decide +kernel) ?_
    refine y_icmp_ge (t := 29) C dX7_firstRule_10 (by decide) (fun c10 => ?_) (fun c10 => absurd (by rw [I.1.2.2.1.1, show k = nr by omega]; exact Int32.le_refl _) c10)
    refine y_iconst (v := -1) C dX7_firstRule_29 (by decide) ?_
    refine y_lo2 (kx (-1) 30 (Or.inr rfl) hf)
  | succ n ih =>
    intro k hk
    intro hf
    refine y_iload_n C dX7_firstRule_2 rfl ?_
    refine y_aload_n C dX7_firstRule_3 rfl ?_
    refine g_X7_rules C hB dX7_firstRule_4 (by decide +kernel) (by decide +kernel) ?_
    refine gR_X5_count C hB hR dX7_firstRule_7 (by decide +kernel) (by decide +kernel) ?_
    refine y_icmp_ge (t := 29) C dX7_firstRule_10 (by decide) (fun c10 => absurd c10 (by rw [I.1.2.2.1.1]; exact nI_ge (by omega) (by have := I.1.2.2.1.2; omega))) (fun c10 => ?_)
    refine y_aload_n C dX7_firstRule_13 rfl ?_
    refine y_iload_n C dX7_firstRule_14 rfl ?_
    refine y_callVi C (e_X7_ruleApplies hB _ _ hR I k (by omega)) dX7_firstRule_15 rfl gX7_firstRule_X7_ruleApplies rfl (is_X7 hB) ⟨rfl, qX7_ruleApplies⟩ ⟨rfl, rfl⟩ ⟨Nat.le_of_ble_eq_true rfl, Nat.le_of_ble_eq_true rfl⟩ rfl (Nat.le_of_ble_eq_true rfl) ⟨Nat.zero_le _, Nat.zero_le _⟩ (fun v1 σ1 τ1 hq => ?_)
    obtain ⟨rfl, rfl, rfl⟩ := hq
    refine y_if_eq (t := 23) C dX7_firstRule_18 (by decide) (fun c18 => ?_) (fun c18 => ?_)
    · -- t
      refine y_iinc C dX7_firstRule_23 (L' := [_, _]) rfl (nI_1 k) rfl ?_
      refine y_goto (t := 2) C dX7_firstRule_26 (by decide) ?_
      exact ih (k + 1) (by omega) (by simp only [mFs] at hf; rw [if_neg (by simp_all)] at hf; exact hf)
    · -- f
      refine y_iload_n C dX7_firstRule_21 rfl ?_
      refine y_lo2 (kx (nI k) 22 (Or.inl rfl) (by simp only [mFs] at hf; rw [if_pos (by simp_all)] at hf; exact hf))
set_option maxHeartbeats 4000000 in
set_option maxRecDepth 100000 in
theorem e_X7_firstRule {B : Nat} (hB : isW B) {r : Rw} (σ : xS) (τ : xT) (hR : Rel σ B r) {R ns nr ne t tl : Nat} (I : Inv r R ns nr ne t tl) : Xi mX7_firstRule [.ref B] σ τ (fun o σ1 τ1 => o = (mFst r) ∧ σ = σ1 ∧ τ = τ1) := by
  refine Xi_mk (L := [some (.ref B), none]) (by decide) rfl (Nat.le_of_ble_eq_true rfl) rfl (fun x C => ?_)
  refine y_iconst (v := 0) C dX7_firstRule_0 (by decide) ?_
  refine y_istore_n C dX7_firstRule_1 (L' := [_, _]) (Nat.lt_of_lt_of_le (by decide : (1 : Nat) < 2) (Nat.le_refl _)) rfl ?_
  exact l_X7_firstRule C hB σ τ hR I (fun a pc9 h9 ha => by
    rcases h9 with rfl | rfl
    · exact y_iret C rfl dX7_firstRule_22 ⟨ha, rfl, rfl⟩
    · exact y_iret C rfl dX7_firstRule_30 ⟨ha, rfl, rfl⟩) _ 0 (Nat.zero_add _) (by rw [mFst, inv_cr I])
