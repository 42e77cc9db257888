/-! THE CHECKSUM -/
def mxi (h : Int64) (v : Int32) : Int64 := 31 * h + v.toInt64
def mxF (f : Nat → Int32) : Nat → Int64 → Int64
  | 0, h => h
  | k + 1, h => mxi (mxF f k h) (f k)
def mxR (r : Rw) (R : Nat) : Nat → Int64 → Int64
  | 0, h => h
  | k + 1, h => mxF (fun j => mDoorI r k (k + 1 + j)) (R - k) (mxF (fun w => mRooT r k (nI w)) 7 (mxR r R k h))
def mxS (r : Rw) : Nat → Int64 → Int64
  | 0, h => h
  | k + 1, h => mxF (fun w => mSenT r k (nI w)) 9 (mxS r k h)
def mxE (r : Rw) : Nat → Int64 → Int64
  | 0, h => h
  | k + 1, h => mxF (fun w => r (145 + 4 * k + w)) 4 (mxE r k h)
def mSum (r : Rw) (R ns ne kp : Nat) : Int64 := mxi (mxF (fun w => r (13 + w)) 6 (mxE r ne (mxi (mxS r ns (mxR r R R (mxF (fun w => mNum r (nI w)) 15 18750))) (mFst r)))) (nI kp)
theorem mxE_F (r : Rw) (h : Int64) : ∀ n, mxF (fun j => r (145 + j)) (4 * n) h = mxE r n h := by
  intro n
  induction n with
  | zero => rfl
  | succ n ih =>
    show mxF (fun j => r (145 + j)) (4 * n + 4) h = _
    simp only [mxE, mxF]
    rw [ih]
    rfl

set_option maxHeartbeats 4000000 in
set_option maxRecDepth 100000 in
theorem e_X8_mix (σ : xS) (τ : xT) (h : Int64) (v : Int32) : Xl mX8_mix [.long h, .int v] σ τ (fun o σ1 τ1 => o = mxi h v ∧ σ = σ1 ∧ τ = τ1) := by
  refine Xl_mk (L := [some (.long h), none, some (.int v)]) (by decide) rfl (Nat.le_of_ble_eq_true rfl) rfl (fun x C => ?_)
  refine y_ldc2 (v := 31) C dX8_mix_0 (by decide +kernel) ?_
  refine y_lload_n C dX8_mix_3 rfl ?_
  refine y_lmul C dX8_mix_4 ?_
  refine y_iload_n C dX8_mix_5 rfl ?_
  refine y_i2l C dX8_mix_6 ?_
  refine y_ladd C dX8_mix_7 ?_
  exact y_lret C rfl dX8_mix_8 (⟨rfl, rfl, rfl⟩)
set_option maxHeartbeats 4000000 in
set_option maxRecDepth 100000 in
theorem l_X8_ck1 {x : xC} (C : Cx x mX8_checksum) (σ : xS) (τ : xT) {r : Rw} {R ns nr ne t tl : Nat} (hR : Rel σ 1 r) (I : Inv r R ns nr ne t tl) (h0 : Int64) (v4 : Option Value) {Z : State → Prop} (kx : Y x 31 [some (.ref 0), some (.long (mxF (fun w => mNum r (nI w)) 15 h0)), none, some (.int (nI 15)), v4] [] σ τ 0 0 Z) : ∀ n k : Nat, k + n = 15 → Y x 6 [some (.ref 0), some (.long (mxF (fun w => mNum r (nI w)) k h0)), none, some (.int (nI k)), v4] [] σ τ 0 0 Z := by
  intro n
  induction n with
  | zero =>
    intro k hk
    have hB : isW 1 := Or.inl rfl
    have hR4 := I.1.1.2
    have hs8 := I.1.2.1.2
    have he20 := I.1.2.2.2.1.2
    refine y_iload_n C dX8_checksum_6 rfl ?_
    refine y_bipush (v := 15) C dX8_checksum_7 (by decide) ?_
    refine y_icmp_ge (t := 31) C dX8_checksum_9 (by decide) (fun c9 => ?_) (fun c9 => absurd (by rw [show k = 15 by omega]; exact Int32.le_refl _) c9)
    obtain rfl : k = 15 := by omega
    exact kx
  | succ n ih =>
    intro k hk
    have hB : isW 1 := Or.inl rfl
    have hR4 := I.1.1.2
    have hs8 := I.1.2.1.2
    have he20 := I.1.2.2.2.1.2
    refine y_iload_n C dX8_checksum_6 rfl ?_
    refine y_bipush (v := 15) C dX8_checksum_7 (by decide) ?_
    refine y_icmp_ge (t := 31) C dX8_checksum_9 (by decide) (fun c9 => absurd c9 (nI_ge (a := k) (b := 15) (by omega) (by omega))) (fun c9 => ?_)
    refine y_lload_n C dX8_checksum_12 rfl ?_
    refine y_aload_n C dX8_checksum_13 rfl ?_
    refine g_X8_now C dX8_checksum_14 (by decide +kernel) (by decide +kernel) ?_
    refine y_iload_n C dX8_checksum_17 rfl ?_
    refine y_callVi C (e_X7_aboutAll hB _ _ hR I k (by omega)) dX8_checksum_18 rfl gX8_checksum_X7_aboutAll rfl (is_X7 hB) ⟨rfl, qX7_aboutAll⟩ ⟨rfl, rfl⟩ ⟨Nat.le_of_ble_eq_true rfl, Nat.le_of_ble_eq_true rfl⟩ rfl (Nat.le_of_ble_eq_true rfl) ⟨Nat.zero_le _, Nat.zero_le _⟩ (fun v1 σ1 τ1 hq => ?_)
    obtain ⟨rfl, rfl, rfl⟩ := hq
    refine y_callSl C (e_X8_mix _ _ _ _) dX8_checksum_21 rfl gX8_checksum_X8_mix rfl qX8_mix ⟨rfl, rfl⟩ ⟨Nat.le_of_ble_eq_true rfl, Nat.le_of_ble_eq_true rfl⟩ rfl (Nat.le_of_ble_eq_true rfl) ⟨Nat.zero_le _, Nat.zero_le _⟩ (fun v1 σ1 τ1 hq => ?_)
    obtain ⟨rfl, rfl, rfl⟩ := hq
    refine y_lstore_n C dX8_checksum_24 (L' := [_, _, _, _, _]) (Nat.lt_of_lt_of_le (by decide : (1 : Nat) + 1 < 5) (Nat.le_refl _)) rfl ?_
    refine y_iinc C dX8_checksum_25 (L' := [_, _, _, _, _]) rfl (nI_1 k) rfl ?_
    refine y_goto (t := 6) C dX8_checksum_28 (by decide) ?_
    exact ih (k + 1) (by omega)
set_option maxHeartbeats 4000000 in
set_option maxRecDepth 100000 in
theorem l_X8_ck2 {x : xC} (C : Cx x mX8_checksum) (σ : xS) (τ : xT) {r : Rw} {R ns nr ne t tl : Nat} (hR : Rel σ 1 r) (I : Inv r R ns nr ne t tl) (i : Nat) (hi : i < ns) (h0 : Int64) {Z : State → Prop} (kx : Y x 84 [some (.ref 0), some (.long (mxF (fun w => mSenT r i (nI w)) 9 h0)), none, some (.int (nI i)), some (.int (nI 9))] [] σ τ 0 0 Z) : ∀ n k : Nat, k + n = 9 → Y x 56 [some (.ref 0), some (.long (mxF (fun w => mSenT r i (nI w)) k h0)), none, some (.int (nI i)), some (.int (nI k))] [] σ τ 0 0 Z := by
  intro n
  induction n with
  | zero =>
    intro k hk
    have hB : isW 1 := Or.inl rfl
    have hR4 := I.1.1.2
    have hs8 := I.1.2.1.2
    have he20 := I.1.2.2.2.1.2
    refine y_iload C dX8_checksum_56 rfl ?_
    refine y_bipush (v := 9) C dX8_checksum_58 (by decide) ?_
    refine y_icmp_ge (t := 84) C dX8_checksum_60 (by decide) (fun c60 => ?_) (fun c60 => absurd (by rw [show k = 9 by omega]; exact Int32.le_refl _) c60)
    obtain rfl : k = 9 := by omega
    exact kx
  | succ n ih =>
    intro k hk
    have hB : isW 1 := Or.inl rfl
    have hR4 := I.1.1.2
    have hs8 := I.1.2.1.2
    have he20 := I.1.2.2.2.1.2
    refine y_iload C dX8_checksum_56 rfl ?_
    refine y_bipush (v := 9) C dX8_checksum_58 (by decide) ?_
    refine y_icmp_ge (t := 84) C dX8_checksum_60 (by decide) (fun c60 => absurd c60 (nI_ge (a := k) (b := 9) (by omega) (by omega))) (fun c60 => ?_)
    refine y_lload_n C dX8_checksum_63 rfl ?_
    refine y_aload_n C dX8_checksum_64 rfl ?_
    refine g_X8_now C dX8_checksum_65 (by decide +kernel) (by decide +kernel) ?_
    refine y_iload_n C dX8_checksum_68 rfl ?_
    refine y_iload C dX8_checksum_69 rfl ?_
    refine y_callVi C (e_X7_aboutSensor hB _ _ hR I i k hi (by omega)) dX8_checksum_71 rfl gX8_checksum_X7_aboutSensor rfl (is_X7 hB) ⟨rfl, qX7_aboutSensor⟩ ⟨rfl, rfl⟩ ⟨Nat.le_of_ble_eq_true rfl, Nat.le_of_ble_eq_true rfl⟩ rfl (Nat.le_of_ble_eq_true rfl) ⟨Nat.zero_le _, Nat.zero_le _⟩ (fun v1 σ1 τ1 hq => ?_)
    obtain ⟨rfl, rfl, rfl⟩ := hq
    refine y_callSl C (e_X8_mix _ _ _ _) dX8_checksum_74 rfl gX8_checksum_X8_mix rfl qX8_mix ⟨rfl, rfl⟩ ⟨Nat.le_of_ble_eq_true rfl, Nat.le_of_ble_eq_true rfl⟩ rfl (Nat.le_of_ble_eq_true rfl) ⟨Nat.zero_le _, Nat.zero_le _⟩ (fun v1 σ1 τ1 hq => ?_)
    obtain ⟨rfl, rfl, rfl⟩ := hq
    refine y_lstore_n C dX8_checksum_77 (L' := [_, _, _, _, _]) (Nat.lt_of_lt_of_le (by decide : (1 : Nat) + 1 < 5) (Nat.le_refl _)) rfl ?_
    refine y_iinc C dX8_checksum_78 (L' := [_, _, _, _, _]) rfl (nI_1 k) rfl ?_
    refine y_goto (t := 56) C dX8_checksum_81 (by decide) ?_
    exact ih (k + 1) (by omega)
set_option maxHeartbeats 4000000 in
set_option maxRecDepth 100000 in
theorem l_X8_ck3 {x : xC} (C : Cx x mX8_checksum) (σ : xS) (τ : xT) {r : Rw} {R ns nr ne t tl : Nat} (hR : Rel σ 1 r) (I : Inv r R ns nr ne t tl) (h0 : Int64) {Z : State → Prop} (kx : ∀ v4 : Option Value, Y x 90 [some (.ref 0), some (.long (mxS r ns h0)), none, some (.int (nI ns)), v4] [] σ τ 0 0 Z) : ∀ n k : Nat, k + n = ns → ∀ v4 : Option Value, Y x 39 [some (.ref 0), some (.long (mxS r k h0)), none, some (.int (nI k)), v4] [] σ τ 0 0 Z := by
  intro n
  induction n with
  | zero =>
    intro k hk
    intro v4
    have hB : isW 1 := Or.inl rfl
    have hR4 := I.1.1.2
    have hs8 := I.1.2.1.2
    have he20 := I.1.2.2.2.1.2
    refine y_iload_n C dX8_checksum_39 rfl ?_
    refine y_aload_n C dX8_checksum_40 rfl ?_
    refine g_X8_now C dX8_checksum_41 (by decide +kernel) (by decide +kernel) ?_
    refine g_X7_sensors C hB dX8_checksum_44 (by decide +kernel) (by decide +kernel) ?_
    refine gR_X6_count C hB hR dX8_checksum_47 (by decide +kernel) (by decide +kernel) ?_
    refine y_topE (nI ns) I.1.2.1.1 ?_
    refine y_icmp_ge (t := 90) C dX8_checksum_50 (by decide) (fun c50 => ?_) (fun c50 => absurd (by rw [show k = ns by omega]; exact Int32.le_refl _) c50)
    obtain rfl : k = ns := by omega
    exact kx v4
  | succ n ih =>
    intro k hk
    intro v4
    have hB : isW 1 := Or.inl rfl
    have hR4 := I.1.1.2
    have hs8 := I.1.2.1.2
    have he20 := I.1.2.2.2.1.2
    refine y_iload_n C dX8_checksum_39 rfl ?_
    refine y_aload_n C dX8_checksum_40 rfl ?_
    refine g_X8_now C dX8_checksum_41 (by decide +kernel) (by decide +kernel) ?_
    refine g_X7_sensors C hB dX8_checksum_44 (by decide +kernel) (by decide +kernel) ?_
    refine gR_X6_count C hB hR dX8_checksum_47 (by decide +kernel) (by decide +kernel) ?_
    refine y_topE (nI ns) I.1.2.1.1 ?_
    refine y_icmp_ge (t := 90) C dX8_checksum_50 (by decide) (fun c50 => absurd c50 (nI_ge (by omega) (by omega))) (fun c50 => ?_)
    refine y_iconst (v := 0) C dX8_checksum_53 (by decide) ?_
    refine y_istore C dX8_checksum_54 (L' := [_, _, _, _, _]) (Nat.lt_of_lt_of_le (by decide : (4 : Nat) < 5) (Nat.le_refl _)) rfl ?_
    refine l_X8_ck2 C σ τ hR I k (by omega) (mxS r k h0) ?_ 9 0 (Nat.zero_add _)
    refine y_iinc C dX8_checksum_84 (L' := [_, _, _, _, _]) rfl (nI_1 k) rfl ?_
    refine y_goto (t := 39) C dX8_checksum_87 (by decide) ?_
    exact ih (k + 1) (by omega) _
set_option maxHeartbeats 4000000 in
set_option maxRecDepth 100000 in
theorem l_X8_ck4 {x : xC} (C : Cx x mX8_checksum) (σ : xS) (τ : xT) {r : Rw} {R ns nr ne t tl : Nat} (hR : Rel σ 1 r) (I : Inv r R ns nr ne t tl) (i : Nat) (hi : i < ne) (h0 : Int64) {Z : State → Prop} (kx : Y x 151 [some (.ref 0), some (.long (mxF (fun w => r (145 + 4 * i + w)) 4 h0)), none, some (.int (nI i)), some (.int (nI 4))] [] σ τ 0 0 Z) : ∀ n k : Nat, k + n = 4 → Y x 121 [some (.ref 0), some (.long (mxF (fun w => r (145 + 4 * i + w)) k h0)), none, some (.int (nI i)), some (.int (nI k))] [] σ τ 0 0 Z := by
  intro n
  induction n with
  | zero =>
    intro k hk
    have hB : isW 1 := Or.inl rfl
    have hR4 := I.1.1.2
    have hs8 := I.1.2.1.2
    have he20 := I.1.2.2.2.1.2
    refine y_iload C dX8_checksum_121 rfl ?_
    refine y_iconst (v := 4) C dX8_checksum_123 (by decide) ?_
    refine y_icmp_ge (t := 151) C dX8_checksum_124 (by decide) (fun c124 => ?_) (fun c124 => absurd (by rw [show k = 4 by omega]; exact Int32.le_refl _) c124)
    obtain rfl : k = 4 := by omega
    exact kx
  | succ n ih =>
    intro k hk
    have hB : isW 1 := Or.inl rfl
    have hR4 := I.1.1.2
    have hs8 := I.1.2.1.2
    have he20 := I.1.2.2.2.1.2
    refine y_iload C dX8_checksum_121 rfl ?_
    refine y_iconst (v := 4) C dX8_checksum_123 (by decide) ?_
    refine y_icmp_ge (t := 151) C dX8_checksum_124 (by decide) (fun c124 => absurd c124 (nI_ge (a := k) (b := 4) (by omega) (by omega))) (fun c124 => ?_)
    refine y_lload_n C dX8_checksum_127 rfl ?_
    refine y_aload_n C dX8_checksum_128 rfl ?_
    refine g_X8_now C dX8_checksum_129 (by decide +kernel) (by decide +kernel) ?_
    refine g_X7_events C hB dX8_checksum_132 (by decide +kernel) (by decide +kernel) ?_
    refine y_iload_n C dX8_checksum_135 rfl ?_
    refine y_iload C dX8_checksum_136 rfl ?_
    refine y_callVi C (e_X1_about hB _ _ hR I i k hi (by omega)) dX8_checksum_138 rfl gX8_checksum_X1_about rfl (is_X1 hB) ⟨rfl, qX1_about⟩ ⟨rfl, rfl⟩ ⟨Nat.le_of_ble_eq_true rfl, Nat.le_of_ble_eq_true rfl⟩ rfl (Nat.le_of_ble_eq_true rfl) ⟨Nat.zero_le _, Nat.zero_le _⟩ (fun v1 σ1 τ1 hq => ?_)
    obtain ⟨rfl, rfl, rfl⟩ := hq
    refine y_callSl C (e_X8_mix _ _ _ _) dX8_checksum_141 rfl gX8_checksum_X8_mix rfl qX8_mix ⟨rfl, rfl⟩ ⟨Nat.le_of_ble_eq_true rfl, Nat.le_of_ble_eq_true rfl⟩ rfl (Nat.le_of_ble_eq_true rfl) ⟨Nat.zero_le _, Nat.zero_le _⟩ (fun v1 σ1 τ1 hq => ?_)
    obtain ⟨rfl, rfl, rfl⟩ := hq
    refine y_lstore_n C dX8_checksum_144 (L' := [_, _, _, _, _]) (Nat.lt_of_lt_of_le (by decide : (1 : Nat) + 1 < 5) (Nat.le_refl _)) rfl ?_
    refine y_iinc C dX8_checksum_145 (L' := [_, _, _, _, _]) rfl (nI_1 k) rfl ?_
    refine y_goto (t := 121) C dX8_checksum_148 (by decide) ?_
    exact ih (k + 1) (by omega)
set_option maxHeartbeats 4000000 in
set_option maxRecDepth 100000 in
theorem l_X8_ck5 {x : xC} (C : Cx x mX8_checksum) (σ : xS) (τ : xT) {r : Rw} {R ns nr ne t tl : Nat} (hR : Rel σ 1 r) (I : Inv r R ns nr ne t tl) (h0 : Int64) {Z : State → Prop} (kx : ∀ v4 : Option Value, Y x 157 [some (.ref 0), some (.long (mxE r ne h0)), none, some (.int (nI ne)), v4] [] σ τ 0 0 Z) : ∀ n k : Nat, k + n = ne → ∀ v4 : Option Value, Y x 104 [some (.ref 0), some (.long (mxE r k h0)), none, some (.int (nI k)), v4] [] σ τ 0 0 Z := by
  intro n
  induction n with
  | zero =>
    intro k hk
    intro v4
    have hB : isW 1 := Or.inl rfl
    have hR4 := I.1.1.2
    have hs8 := I.1.2.1.2
    have he20 := I.1.2.2.2.1.2
    refine y_iload_n C dX8_checksum_104 rfl ?_
    refine y_aload_n C dX8_checksum_105 rfl ?_
    refine g_X8_now C dX8_checksum_106 (by decide +kernel) (by decide +kernel) ?_
    refine g_X7_events C hB dX8_checksum_109 (by decide +kernel) (by decide +kernel) ?_
    refine gR_X1_count C hB hR dX8_checksum_112 (by decide +kernel) (by decide +kernel) ?_
    refine y_topE (nI ne) I.1.2.2.2.1.1 ?_
    refine y_icmp_ge (t := 157) C dX8_checksum_115 (by decide) (fun c115 => ?_) (fun c115 => absurd (by rw [show k = ne by omega]; exact Int32.le_refl _) c115)
    obtain rfl : k = ne := by omega
    exact kx v4
  | succ n ih =>
    intro k hk
    intro v4
    have hB : isW 1 := Or.inl rfl
    have hR4 := I.1.1.2
    have hs8 := I.1.2.1.2
    have he20 := I.1.2.2.2.1.2
    refine y_iload_n C dX8_checksum_104 rfl ?_
    refine y_aload_n C dX8_checksum_105 rfl ?_
    refine g_X8_now C dX8_checksum_106 (by decide +kernel) (by decide +kernel) ?_
    refine g_X7_events C hB dX8_checksum_109 (by decide +kernel) (by decide +kernel) ?_
    refine gR_X1_count C hB hR dX8_checksum_112 (by decide +kernel) (by decide +kernel) ?_
    refine y_topE (nI ne) I.1.2.2.2.1.1 ?_
    refine y_icmp_ge (t := 157) C dX8_checksum_115 (by decide) (fun c115 => absurd c115 (nI_ge (by omega) (by omega))) (fun c115 => ?_)
    refine y_iconst (v := 0) C dX8_checksum_118 (by decide) ?_
    refine y_istore C dX8_checksum_119 (L' := [_, _, _, _, _]) (Nat.lt_of_lt_of_le (by decide : (4 : Nat) < 5) (Nat.le_refl _)) rfl ?_
    refine l_X8_ck4 C σ τ hR I k (by omega) (mxE r k h0) ?_ 4 0 (Nat.zero_add _)
    refine y_iinc C dX8_checksum_151 (L' := [_, _, _, _, _]) rfl (nI_1 k) rfl ?_
    refine y_goto (t := 104) C dX8_checksum_154 (by decide) ?_
    exact ih (k + 1) (by omega) _
set_option maxHeartbeats 4000000 in
set_option maxRecDepth 100000 in
theorem l_X8_ck6 {x : xC} (C : Cx x mX8_checksum) (σ : xS) (τ : xT) {r : Rw} {R ns nr ne t tl : Nat} (hR : Rel σ 1 r) (I : Inv r R ns nr ne t tl) (h0 : Int64) (v4 : Option Value) {Z : State → Prop} (kx : Y x 185 [some (.ref 0), some (.long (mxF (fun w => r (13 + w)) 6 h0)), none, some (.int (nI 6)), v4] [] σ τ 0 0 Z) : ∀ n k : Nat, k + n = 6 → Y x 159 [some (.ref 0), some (.long (mxF (fun w => r (13 + w)) k h0)), none, some (.int (nI k)), v4] [] σ τ 0 0 Z := by
  intro n
  induction n with
  | zero =>
    intro k hk
    have hB : isW 1 := Or.inl rfl
    have hR4 := I.1.1.2
    have hs8 := I.1.2.1.2
    have he20 := I.1.2.2.2.1.2
    refine y_iload_n C dX8_checksum_159 rfl ?_
    refine y_bipush (v := 6) C dX8_checksum_160 (by decide) ?_
    refine y_icmp_ge (t := 185) C dX8_checksum_162 (by decide) (fun c162 => ?_) (fun c162 => absurd (by rw [show k = 6 by omega]; exact Int32.le_refl _) c162)
    obtain rfl : k = 6 := by omega
    exact kx
  | succ n ih =>
    intro k hk
    have hB : isW 1 := Or.inl rfl
    have hR4 := I.1.1.2
    have hs8 := I.1.2.1.2
    have he20 := I.1.2.2.2.1.2
    refine y_iload_n C dX8_checksum_159 rfl ?_
    refine y_bipush (v := 6) C dX8_checksum_160 (by decide) ?_
    refine y_icmp_ge (t := 185) C dX8_checksum_162 (by decide) (fun c162 => absurd c162 (nI_ge (a := k) (b := 6) (by omega) (by omega))) (fun c162 => ?_)
    refine y_lload_n C dX8_checksum_165 rfl ?_
    refine y_aload_n C dX8_checksum_166 rfl ?_
    refine g_X8_now C dX8_checksum_167 (by decide +kernel) (by decide +kernel) ?_
    refine g_X7_counts C hB dX8_checksum_170 (by decide +kernel) (by decide +kernel) ?_
    refine y_iload_n C dX8_checksum_173 rfl ?_
    refine aR C hB hR (13 + k) 26 k 6 (pl_lo13 _ (by omega)) (lv_l (by omega) (by omega)) (by decide) rfl (by decide) rfl (by omega) dX8_checksum_174 ?_
    refine y_callSl C (e_X8_mix _ _ _ _) dX8_checksum_175 rfl gX8_checksum_X8_mix rfl qX8_mix ⟨rfl, rfl⟩ ⟨Nat.le_of_ble_eq_true rfl, Nat.le_of_ble_eq_true rfl⟩ rfl (Nat.le_of_ble_eq_true rfl) ⟨Nat.zero_le _, Nat.zero_le _⟩ (fun v1 σ1 τ1 hq => ?_)
    obtain ⟨rfl, rfl, rfl⟩ := hq
    refine y_lstore_n C dX8_checksum_178 (L' := [_, _, _, _, _]) (Nat.lt_of_lt_of_le (by decide : (1 : Nat) + 1 < 5) (Nat.le_refl _)) rfl ?_
    refine y_iinc C dX8_checksum_179 (L' := [_, _, _, _, _]) rfl (nI_1 k) rfl ?_
    refine y_goto (t := 159) C dX8_checksum_182 (by decide) ?_
    exact ih (k + 1) (by omega)
set_option maxHeartbeats 4000000 in
set_option maxRecDepth 100000 in
theorem l_X8_mr1 {x : xC} (C : Cx x mX8_mixRooms) (σ : xS) (τ : xT) {r : Rw} {R ns nr ne t tl : Nat} (hR : Rel σ 1 r) (I : Inv r R ns nr ne t tl) (i : Nat) (hi : i < R) (hs h0 : Int64) {Z : State → Prop} (kx : Y x 52 [some (.ref 0), some (.long hs), none, some (.long (mxF (fun w => mRooT r i (nI w)) 7 h0)), none, some (.int (nI i)), some (.int (nI 7))] [] σ τ 0 0 Z) : ∀ n k : Nat, k + n = 7 → Y x 23 [some (.ref 0), some (.long hs), none, some (.long (mxF (fun w => mRooT r i (nI w)) k h0)), none, some (.int (nI i)), some (.int (nI k))] [] σ τ 0 0 Z := by
  intro n
  induction n with
  | zero =>
    intro k hk
    have hB : isW 1 := Or.inl rfl
    have hR4 := I.1.1.2
    have hs8 := I.1.2.1.2
    have he20 := I.1.2.2.2.1.2
    refine y_iload C dX8_mixRooms_23 rfl ?_
    refine y_bipush (v := 7) C dX8_mixRooms_25 (by decide) ?_
    refine y_icmp_ge (t := 52) C dX8_mixRooms_27 (by decide) (fun c27 => ?_) (fun c27 => absurd (by rw [show k = 7 by omega]; exact Int32.le_refl _) c27)
    obtain rfl : k = 7 := by omega
    exact kx
  | succ n ih =>
    intro k hk
    have hB : isW 1 := Or.inl rfl
    have hR4 := I.1.1.2
    have hs8 := I.1.2.1.2
    have he20 := I.1.2.2.2.1.2
    refine y_iload C dX8_mixRooms_23 rfl ?_
    refine y_bipush (v := 7) C dX8_mixRooms_25 (by decide) ?_
    refine y_icmp_ge (t := 52) C dX8_mixRooms_27 (by decide) (fun c27 => absurd c27 (nI_ge (a := k) (b := 7) (by omega) (by omega))) (fun c27 => ?_)
    refine y_lload_n C dX8_mixRooms_30 rfl ?_
    refine y_aload_n C dX8_mixRooms_31 rfl ?_
    refine g_X8_now C dX8_mixRooms_32 (by decide +kernel) (by decide +kernel) ?_
    refine y_iload C dX8_mixRooms_35 rfl ?_
    refine y_iload C dX8_mixRooms_37 rfl ?_
    refine y_callVi C (e_X7_aboutRoom hB _ _ hR I i k hi (by omega)) dX8_mixRooms_39 rfl gX8_mixRooms_X7_aboutRoom rfl (is_X7 hB) ⟨rfl, qX7_aboutRoom⟩ ⟨rfl, rfl⟩ ⟨Nat.le_of_ble_eq_true rfl, Nat.le_of_ble_eq_true rfl⟩ rfl (Nat.le_of_ble_eq_true rfl) ⟨Nat.zero_le _, Nat.zero_le _⟩ (fun v1 σ1 τ1 hq => ?_)
    obtain ⟨rfl, rfl, rfl⟩ := hq
    refine y_callSl C (e_X8_mix _ _ _ _) dX8_mixRooms_42 rfl gX8_mixRooms_X8_mix rfl qX8_mix ⟨rfl, rfl⟩ ⟨Nat.le_of_ble_eq_true rfl, Nat.le_of_ble_eq_true rfl⟩ rfl (Nat.le_of_ble_eq_true rfl) ⟨Nat.zero_le _, Nat.zero_le _⟩ (fun v1 σ1 τ1 hq => ?_)
    obtain ⟨rfl, rfl, rfl⟩ := hq
    refine y_lstore_n C dX8_mixRooms_45 (L' := [_, _, _, _, _, _, _]) (Nat.lt_of_lt_of_le (by decide : (3 : Nat) + 1 < 7) (Nat.le_refl _)) rfl ?_
    refine y_iinc C dX8_mixRooms_46 (L' := [_, _, _, _, _, _, _]) rfl (nI_1 k) rfl ?_
    refine y_goto (t := 23) C dX8_mixRooms_49 (by decide) ?_
    exact ih (k + 1) (by omega)
set_option maxHeartbeats 4000000 in
set_option maxRecDepth 100000 in
theorem l_X8_mr2 {x : xC} (C : Cx x mX8_mixRooms) (σ : xS) (τ : xT) {r : Rw} {R ns nr ne t tl : Nat} (hR : Rel σ 1 r) (I : Inv r R ns nr ne t tl) (i : Nat) (hi : i < R) (hs h0 : Int64) {Z : State → Prop} (kx : ∀ v6 : Option Value, Y x 106 [some (.ref 0), some (.long hs), none, some (.long (mxF (fun j => mDoorI r i (i + 1 + j)) (R - i) h0)), none, some (.int (nI i)), v6] [] σ τ 0 0 Z) : ∀ n k : Nat, k + n = R - i → Y x 58 [some (.ref 0), some (.long hs), none, some (.long (mxF (fun j => mDoorI r i (i + 1 + j)) k h0)), none, some (.int (nI i)), some (.int (nI (i + 1 + k)))] [] σ τ 0 0 Z := by
  intro n
  induction n with
  | zero =>
    intro k hk
    have hB : isW 1 := Or.inl rfl
    have hR4 := I.1.1.2
    have hs8 := I.1.2.1.2
    have he20 := I.1.2.2.2.1.2
    refine y_iload C dX8_mixRooms_58 rfl ?_
    refine y_aload_n C dX8_mixRooms_60 rfl ?_
    refine g_X8_now C dX8_mixRooms_61 (by decide +kernel) (by decide +kernel) ?_
    refine g_X7_house C hB dX8_mixRooms_64 (by decide +kernel) (by decide +kernel) ?_
    refine gR_X3_rooms C hB hR dX8_mixRooms_67 (by decide +kernel) (by decide +kernel) ?_
    refine y_topE (nI R) I.1.1.1 ?_
    refine y_icmp_gt (t := 106) C dX8_mixRooms_70 (by decide) (fun c70 => ?_) (fun c70 => absurd (nI_lt (by omega) (by omega)) c70)
    obtain rfl : k = R - i := by omega
    exact kx _
  | succ n ih =>
    intro k hk
    have hB : isW 1 := Or.inl rfl
    have hR4 := I.1.1.2
    have hs8 := I.1.2.1.2
    have he20 := I.1.2.2.2.1.2
    refine y_iload C dX8_mixRooms_58 rfl ?_
    refine y_aload_n C dX8_mixRooms_60 rfl ?_
    refine g_X8_now C dX8_mixRooms_61 (by decide +kernel) (by decide +kernel) ?_
    refine g_X7_house C hB dX8_mixRooms_64 (by decide +kernel) (by decide +kernel) ?_
    refine gR_X3_rooms C hB hR dX8_mixRooms_67 (by decide +kernel) (by decide +kernel) ?_
    refine y_topE (nI R) I.1.1.1 ?_
    refine y_icmp_gt (t := 106) C dX8_mixRooms_70 (by decide) (fun c70 => absurd c70 (nI_nlt (by omega) (by omega))) (fun c70 => ?_)
    refine y_lload_n C dX8_mixRooms_73 rfl ?_
    refine y_join (t := 96) (v := .int (mDoorI r i (i + 1 + k))) ?_ (fun K74 => ?_)
    ·
      refine y_callSl C (e_X8_mix _ _ _ _) dX8_mixRooms_96 rfl gX8_mixRooms_X8_mix rfl qX8_mix ⟨rfl, rfl⟩ ⟨Nat.le_of_ble_eq_true rfl, Nat.le_of_ble_eq_true rfl⟩ rfl (Nat.le_of_ble_eq_true rfl) ⟨Nat.zero_le _, Nat.zero_le _⟩ (fun v1 σ1 τ1 hq => ?_)
      obtain ⟨rfl, rfl, rfl⟩ := hq
      refine y_lstore_n C dX8_mixRooms_99 (L' := [_, _, _, _, _, _, _]) (Nat.lt_of_lt_of_le (by decide : (3 : Nat) + 1 < 7) (Nat.le_refl _)) rfl ?_
      refine y_iinc C dX8_mixRooms_100 (L' := [_, _, _, _, _, _, _]) rfl (nI_1 (i + 1 + k)) rfl ?_
      refine y_goto (t := 58) C dX8_mixRooms_103 (by decide) ?_
      exact ih (k + 1) (by omega)
    ·
      refine y_aload_n C dX8_mixRooms_74 rfl ?_
      refine g_X8_now C dX8_mixRooms_75 (by decide +kernel) (by decide +kernel) ?_
      refine g_X7_house C hB dX8_mixRooms_78 (by decide +kernel) (by decide +kernel) ?_
      refine y_iload C dX8_mixRooms_81 rfl ?_
      refine y_iload C dX8_mixRooms_83 rfl ?_
      refine y_callVi C (e_X3_hasOpenDoor hB _ _ hR i (i + 1 + k) (by omega) (by omega) (by omega)) dX8_mixRooms_85 rfl gX8_mixRooms_X3_hasOpenDoor rfl (is_X3 hB) ⟨rfl, qX3_hasOpenDoor⟩ ⟨rfl, rfl⟩ ⟨Nat.le_of_ble_eq_true rfl, Nat.le_of_ble_eq_true rfl⟩ rfl (Nat.le_of_ble_eq_true rfl) ⟨Nat.zero_le _, Nat.zero_le _⟩ (fun v1 σ1 τ1 hq => ?_)
      obtain ⟨rfl, rfl, rfl⟩ := hq
      refine y_if_eq (t := 95) C dX8_mixRooms_88 (by decide) (fun kc88 => ?_) (fun kc88 => ?_)
      · -- t
        refine y_iconst (v := 0) C dX8_mixRooms_95 (by decide) ?_
        exact y_kE K74 (by first | exact kc88.symm | exact ((mDoorI_01 _ _ _).resolve_left kc88).symm)
      · -- f
        refine y_iconst (v := 1) C dX8_mixRooms_91 (by decide) ?_
        refine y_goto (t := 96) C dX8_mixRooms_92 (by decide) ?_
        exact y_kE K74 (by first | exact kc88.symm | exact ((mDoorI_01 _ _ _).resolve_left kc88).symm)
set_option maxHeartbeats 4000000 in
set_option maxRecDepth 100000 in
theorem l_X8_mr3 {x : xC} (C : Cx x mX8_mixRooms) (σ : xS) (τ : xT) {r : Rw} {R ns nr ne t tl : Nat} (hR : Rel σ 1 r) (I : Inv r R ns nr ne t tl) (hs h0 : Int64) {Z : State → Prop} (kx : ∀ v6 : Option Value, Y x 112 [some (.ref 0), some (.long hs), none, some (.long (mxR r R R h0)), none, some (.int (nI R)), v6] [] σ τ 0 0 Z) : ∀ n k : Nat, k + n = R → ∀ v6 : Option Value, Y x 5 [some (.ref 0), some (.long hs), none, some (.long (mxR r R k h0)), none, some (.int (nI k)), v6] [] σ τ 0 0 Z := by
  intro n
  induction n with
  | zero =>
    intro k hk
    intro v6
    have hB : isW 1 := Or.inl rfl
    have hR4 := I.1.1.2
    have hs8 := I.1.2.1.2
    have he20 := I.1.2.2.2.1.2
    refine y_iload C dX8_mixRooms_5 rfl ?_
    refine y_aload_n C dX8_mixRooms_7 rfl ?_
    refine g_X8_now C dX8_mixRooms_8 (by decide +kernel) (by decide +kernel) ?_
    refine g_X7_house C hB dX8_mixRooms_11 (by decide +kernel) (by decide +kernel) ?_
    refine gR_X3_rooms C hB hR dX8_mixRooms_14 (by decide +kernel) (by decide +kernel) ?_
    refine y_topE (nI R) I.1.1.1 ?_
    refine y_icmp_ge (t := 112) C dX8_mixRooms_17 (by decide) (fun c17 => ?_) (fun c17 => absurd (by rw [show k = R by omega]; exact Int32.le_refl _) c17)
    obtain rfl : k = R := by omega
    exact kx v6
  | succ n ih =>
    intro k hk
    intro v6
    have hB : isW 1 := Or.inl rfl
    have hR4 := I.1.1.2
    have hs8 := I.1.2.1.2
    have he20 := I.1.2.2.2.1.2
    refine y_iload C dX8_mixRooms_5 rfl ?_
    refine y_aload_n C dX8_mixRooms_7 rfl ?_
    refine g_X8_now C dX8_mixRooms_8 (by decide +kernel) (by decide +kernel) ?_
    refine g_X7_house C hB dX8_mixRooms_11 (by decide +kernel) (by decide +kernel) ?_
    refine gR_X3_rooms C hB hR dX8_mixRooms_14 (by decide +kernel) (by decide +kernel) ?_
    refine y_topE (nI R) I.1.1.1 ?_
    refine y_icmp_ge (t := 112) C dX8_mixRooms_17 (by decide) (fun c17 => absurd c17 (nI_ge (by omega) (by omega))) (fun c17 => ?_)
    refine y_iconst (v := 0) C dX8_mixRooms_20 (by decide) ?_
    refine y_istore C dX8_mixRooms_21 (L' := [_, _, _, _, _, _, _]) (Nat.lt_of_lt_of_le (by decide : (6 : Nat) < 7) (Nat.le_refl _)) rfl ?_
    refine l_X8_mr1 C σ τ hR I k (by omega) hs (mxR r R k h0) ?_ 7 0 (Nat.zero_add _)
    refine y_iload C dX8_mixRooms_52 rfl ?_
    refine y_iconst (v := 1) C dX8_mixRooms_54 (by decide) ?_
    refine y_iadd C dX8_mixRooms_55 ?_
    refine y_topE (nI (k + 1)) (nI_1 k) ?_
    refine y_istore C dX8_mixRooms_56 (L' := [_, _, _, _, _, _, _]) (Nat.lt_of_lt_of_le (by decide : (6 : Nat) < 7) (Nat.le_refl _)) rfl ?_
    refine l_X8_mr2 C σ τ hR I k (by omega) hs _ (fun v6 => ?_) (R - k) 0 (Nat.zero_add _)
    refine y_iinc C dX8_mixRooms_106 (L' := [_, _, _, _, _, _, _]) rfl (nI_1 k) rfl ?_
    refine y_goto (t := 5) C dX8_mixRooms_109 (by decide) ?_
    exact ih (k + 1) (by omega) _
set_option maxHeartbeats 4000000 in
set_option maxRecDepth 100000 in
theorem e_X8_mixRooms (σ : xS) (τ : xT) {r : Rw} {R ns nr ne t tl : Nat} (hR : Rel σ 1 r) (I : Inv r R ns nr ne t tl) (h : Int64) : Xl mX8_mixRooms [.ref 0, .long h] σ τ (fun o σ1 τ1 => o = mxR r R R h ∧ σ = σ1 ∧ τ = τ1) := by
  have hB : isW 1 := Or.inl rfl
  have hR4 := I.1.1.2
  have hs8 := I.1.2.1.2
  have he20 := I.1.2.2.2.1.2
  refine Xl_mk (L := [some (.ref 0), some (.long h), none, none, none, none, none]) (by decide) rfl (Nat.le_of_ble_eq_true rfl) rfl (fun x C => ?_)
  refine y_lload_n C dX8_mixRooms_0 rfl ?_
  refine y_lstore_n C dX8_mixRooms_1 (L' := [_, _, _, _, _, _, _]) (Nat.lt_of_lt_of_le (by decide : (3 : Nat) + 1 < 7) (Nat.le_refl _)) rfl ?_
  refine y_iconst (v := 0) C dX8_mixRooms_2 (by decide) ?_
  refine y_istore C dX8_mixRooms_3 (L' := [_, _, _, _, _, _, _]) (Nat.lt_of_lt_of_le (by decide : (5 : Nat) < 7) (Nat.le_refl _)) rfl ?_
  refine l_X8_mr3 C σ τ hR I h h (fun v6 => ?_) R 0 (Nat.zero_add _) _
  refine y_lload_n C dX8_mixRooms_112 rfl ?_
  exact y_lret C rfl dX8_mixRooms_113 (⟨rfl, rfl, rfl⟩)
set_option maxHeartbeats 4000000 in
set_option maxRecDepth 100000 in
theorem e_X8_checksum (σ : xS) (τ : xT) {r : Rw} {R ns nr ne t tl : Nat} (hR : Rel σ 1 r) (I : Inv r R ns nr ne t tl) {kp : Nat} {qs : Nat → Rw} (hC : Rc σ kp qs) : Xl mX8_checksum [.ref 0] σ τ (fun o σ1 τ1 => o = mSum r R ns ne kp ∧ σ = σ1 ∧ τ = τ1) := by
  have hB : isW 1 := Or.inl rfl
  have hR4 := I.1.1.2
  have hs8 := I.1.2.1.2
  have he20 := I.1.2.2.2.1.2
  refine Xl_mk (L := [some (.ref 0), none, none, none, none]) (by decide) rfl (Nat.le_of_ble_eq_true rfl) rfl (fun x C => ?_)
  refine y_ldc2 (v := 18750) C dX8_checksum_0 (by decide +kernel) ?_
  refine y_lstore_n C dX8_checksum_3 (L' := [_, _, _, _, _]) (Nat.lt_of_lt_of_le (by decide : (1 : Nat) + 1 < 5) (Nat.le_refl _)) rfl ?_
  refine y_iconst (v := 0) C dX8_checksum_4 (by decide) ?_
  refine y_istore_n C dX8_checksum_5 (L' := [_, _, _, _, _]) (Nat.lt_of_lt_of_le (by decide : (3 : Nat) < 5) (Nat.le_refl _)) rfl ?_
  refine l_X8_ck1 C σ τ hR I 18750 none ?_ 15 0 (Nat.zero_add _)
  refine y_aload_n C dX8_checksum_31 rfl ?_
  refine y_lload_n C dX8_checksum_32 rfl ?_
  refine y_callVl C (e_X8_mixRooms _ _ hR I _) dX8_checksum_33 rfl gX8_checksum_X8_mixRooms rfl (is_X8) ⟨rfl, qX8_mixRooms⟩ ⟨rfl, rfl⟩ ⟨Nat.le_of_ble_eq_true rfl, Nat.le_of_ble_eq_true rfl⟩ rfl (Nat.le_of_ble_eq_true rfl) ⟨Nat.zero_le _, Nat.zero_le _⟩ (fun v1 σ1 τ1 hq => ?_)
  obtain ⟨rfl, rfl, rfl⟩ := hq
  refine y_lstore_n C dX8_checksum_36 (L' := [_, _, _, _, _]) (Nat.lt_of_lt_of_le (by decide : (1 : Nat) + 1 < 5) (Nat.le_refl _)) rfl ?_
  refine y_iconst (v := 0) C dX8_checksum_37 (by decide) ?_
  refine y_istore_n C dX8_checksum_38 (L' := [_, _, _, _, _]) (Nat.lt_of_lt_of_le (by decide : (3 : Nat) < 5) (Nat.le_refl _)) rfl ?_
  refine l_X8_ck3 C σ τ hR I _ (fun v4 => ?_) ns 0 (Nat.zero_add _) none
  refine y_lload_n C dX8_checksum_90 rfl ?_
  refine y_aload_n C dX8_checksum_91 rfl ?_
  refine g_X8_now C dX8_checksum_92 (by decide +kernel) (by decide +kernel) ?_
  refine y_callVi C (e_X7_firstRule hB _ _ hR I) dX8_checksum_95 rfl gX8_checksum_X7_firstRule rfl (is_X7 hB) ⟨rfl, qX7_firstRule⟩ ⟨rfl, rfl⟩ ⟨Nat.le_of_ble_eq_true rfl, Nat.le_of_ble_eq_true rfl⟩ rfl (Nat.le_of_ble_eq_true rfl) ⟨Nat.zero_le _, Nat.zero_le _⟩ (fun v1 σ1 τ1 hq => ?_)
  obtain ⟨rfl, rfl, rfl⟩ := hq
  refine y_callSl C (e_X8_mix _ _ _ _) dX8_checksum_98 rfl gX8_checksum_X8_mix rfl qX8_mix ⟨rfl, rfl⟩ ⟨Nat.le_of_ble_eq_true rfl, Nat.le_of_ble_eq_true rfl⟩ rfl (Nat.le_of_ble_eq_true rfl) ⟨Nat.zero_le _, Nat.zero_le _⟩ (fun v1 σ1 τ1 hq => ?_)
  obtain ⟨rfl, rfl, rfl⟩ := hq
  refine y_lstore_n C dX8_checksum_101 (L' := [_, _, _, _, _]) (Nat.lt_of_lt_of_le (by decide : (1 : Nat) + 1 < 5) (Nat.le_refl _)) rfl ?_
  refine y_iconst (v := 0) C dX8_checksum_102 (by decide) ?_
  refine y_istore_n C dX8_checksum_103 (L' := [_, _, _, _, _]) (Nat.lt_of_lt_of_le (by decide : (3 : Nat) < 5) (Nat.le_refl _)) rfl ?_
  refine l_X8_ck5 C σ τ hR I _ (fun v4 => ?_) ne 0 (Nat.zero_add _) _
  refine y_iconst (v := 0) C dX8_checksum_157 (by decide) ?_
  refine y_istore_n C dX8_checksum_158 (L' := [_, _, _, _, _]) (Nat.lt_of_lt_of_le (by decide : (3 : Nat) < 5) (Nat.le_refl _)) rfl ?_
  refine l_X8_ck6 C σ τ hR I _ _ ?_ 6 0 (Nat.zero_add _)
  refine y_lload_n C dX8_checksum_185 rfl ?_
  refine y_aload_n C dX8_checksum_186 rfl ?_
  refine g_X8_records C dX8_checksum_187 (by decide +kernel) (by decide +kernel) ?_
  refine g_X4_kept C dX8_checksum_190 (by decide +kernel) (by decide +kernel) ?_
  refine y_topE (nI kp) hC.num ?_
  refine y_callSl C (e_X8_mix _ _ _ _) dX8_checksum_193 rfl gX8_checksum_X8_mix rfl qX8_mix ⟨rfl, rfl⟩ ⟨Nat.le_of_ble_eq_true rfl, Nat.le_of_ble_eq_true rfl⟩ rfl (Nat.le_of_ble_eq_true rfl) ⟨Nat.zero_le _, Nat.zero_le _⟩ (fun v1 σ1 τ1 hq => ?_)
  obtain ⟨rfl, rfl, rfl⟩ := hq
  exact y_lret C rfl dX8_checksum_196 (⟨rfl, rfl, rfl⟩)
set_option maxHeartbeats 4000000 in
set_option maxRecDepth 100000 in
theorem e_X8_applying (σ : xS) (τ : xT) {r : Rw} {R ns nr ne t tl : Nat} (hR : Rel σ 1 r) (I : Inv r R ns nr ne t tl) : Xi mX8_applying [.ref 0] σ τ (fun o σ1 τ1 => o = mFst r ∧ σ = σ1 ∧ τ = τ1) := by
  have hB : isW 1 := Or.inl rfl
  have hR4 := I.1.1.2
  have hs8 := I.1.2.1.2
  have he20 := I.1.2.2.2.1.2
  refine Xi_mk (L := [some (.ref 0)]) (by decide) rfl (Nat.le_of_ble_eq_true rfl) rfl (fun x C => ?_)
  refine y_aload_n C dX8_applying_0 rfl ?_
  refine g_X8_now C dX8_applying_1 (by decide +kernel) (by decide +kernel) ?_
  refine y_callVi C (e_X7_firstRule hB _ _ hR I) dX8_applying_4 rfl gX8_applying_X7_firstRule rfl (is_X7 hB) ⟨rfl, qX7_firstRule⟩ ⟨rfl, rfl⟩ ⟨Nat.le_of_ble_eq_true rfl, Nat.le_of_ble_eq_true rfl⟩ rfl (Nat.le_of_ble_eq_true rfl) ⟨Nat.zero_le _, Nat.zero_le _⟩ (fun v1 σ1 τ1 hq => ?_)
  obtain ⟨rfl, rfl, rfl⟩ := hq
  exact y_iret C rfl dX8_applying_7 (⟨rfl, rfl, rfl⟩)
