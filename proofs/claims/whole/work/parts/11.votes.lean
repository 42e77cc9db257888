set_option maxHeartbeats 4000000 in
set_option maxRecDepth 100000 in
theorem l_X6_votersIn {x : xC} (C : Cx x mX6_votersIn) {B : Nat} (hB : isW B) {r : Rw} (σ : xS) (τ : xT) (hR : Rel σ B r) {R ns nr ne t tl : Nat} (I : Inv r R ns nr ne t tl) (a : Int32) {Z : State → Prop} (kx : Y x 42 [some (.ref (B + 5)), some (.int a), some (.int (mVts r a ns)), some (.int (nI ns))] [] σ τ 0 0 Z) : ∀ n k : Nat, k + n = ns → Y x 4 [some (.ref (B + 5)), some (.int a), some (.int (mVts r a k)), some (.int (nI k))] [] σ τ 0 0 Z := by
  intro n
  induction n with
  | zero =>
    intro k hk
    refine y_iload_n C dX6_votersIn_4 rfl ?_
    refine y_aload_n C dX6_votersIn_5 rfl ?_
    refine gR_X6_count C hB hR dX6_votersIn_6 (by decide +kernel) (by decide +kernel) ?_
    refine y_icmp_ge (t := 42) C dX6_votersIn_9 (by decide) (fun c9 => ?_) (fun c9 => absurd (by rw [I.1.2.1.1, show k = ns by omega]; exact Int32.le_refl _) c9)
    obtain rfl : k = ns := by omega
    exact kx
  | succ n ih =>
    intro k hk
    refine y_iload_n C dX6_votersIn_4 rfl ?_
    refine y_aload_n C dX6_votersIn_5 rfl ?_
    refine gR_X6_count C hB hR dX6_votersIn_6 (by decide +kernel) (by decide +kernel) ?_
    refine y_icmp_ge (t := 42) C dX6_votersIn_9 (by decide) (fun c9 => absurd c9 (by rw [I.1.2.1.1]; exact nI_ge (by omega) (by have := I.1.2.1.2; omega))) (fun c9 => ?_)
    refine y_aload_n C dX6_votersIn_12 rfl ?_
    refine g_X6_room C hB dX6_votersIn_13 (by decide +kernel) (by decide +kernel) ?_
    refine y_iload_n C dX6_votersIn_16 rfl ?_
    refine aR C hB hR (57 + 7 * k + 0) 6 k 8 (pl_s _ (by have := I.1.2.1.2; omega) _ (by decide)) (lv_s (by have := I.1.2.1.2; omega) (by decide) (inv_s I (by omega))) (by decide) rfl (by decide) rfl (by have := I.1.2.1.2; omega) dX6_votersIn_17 ?_
    refine y_iload_n C dX6_votersIn_18 rfl ?_
    refine y_icmp_ne (t := 36) C dX6_votersIn_19 (by decide) (fun c19 => ?_) (fun c19 => ?_)
    · -- t
      refine y_iinc C dX6_votersIn_36 (L' := [_, _, _, _]) rfl (nI_1 k) rfl ?_
      refine y_goto (t := 4) C dX6_votersIn_39 (by decide) ?_
      have h9 := ih (k + 1) (by omega)
      first
        | (rw [show mVts r a (k + 1) = mVts r a k by simp only [mVts]; rw [if_neg (by simp_all)]] at h9; exact h9)
        | (rw [show mVts r a (k + 1) = mVts r a k ||| ((1 : Int32) <<< (nI k &&& 31)) by simp only [mVts]; rw [if_pos (by simp_all)]] at h9; exact h9)
    · -- f
      refine y_aload_n C dX6_votersIn_22 rfl ?_
      refine y_iload_n C dX6_votersIn_23 rfl ?_
      refine y_callVi C (e_X6_votes hB _ _ hR I k (by omega)) dX6_votersIn_24 rfl gX6_votersIn_X6_votes rfl (is_X6 hB) ⟨rfl, qX6_votes⟩ ⟨rfl, rfl⟩ ⟨Nat.le_of_ble_eq_true rfl, Nat.le_of_ble_eq_true rfl⟩ rfl (Nat.le_of_ble_eq_true rfl) ⟨Nat.zero_le _, Nat.zero_le _⟩ (fun v1 σ1 τ1 hq => ?_)
      obtain ⟨rfl, rfl, rfl⟩ := hq
      refine y_if_eq (t := 36) C dX6_votersIn_27 (by decide) (fun c27 => ?_) (fun c27 => ?_)
      · -- t
        refine y_iinc C dX6_votersIn_36 (L' := [_, _, _, _]) rfl (nI_1 k) rfl ?_
        refine y_goto (t := 4) C dX6_votersIn_39 (by decide) ?_
        have h9 := ih (k + 1) (by omega)
        first
          | (rw [show mVts r a (k + 1) = mVts r a k by simp only [mVts]; rw [if_neg (by simp_all)]] at h9; exact h9)
          | (rw [show mVts r a (k + 1) = mVts r a k ||| ((1 : Int32) <<< (nI k &&& 31)) by simp only [mVts]; rw [if_pos (by simp_all)]] at h9; exact h9)
      · -- f
        refine y_iload_n C dX6_votersIn_30 rfl ?_
        refine y_iconst (v := 1) C dX6_votersIn_31 (by decide) ?_
        refine y_iload_n C dX6_votersIn_32 rfl ?_
        refine y_ishl C dX6_votersIn_33 ?_
        refine y_ior C dX6_votersIn_34 ?_
        refine y_istore_n C dX6_votersIn_35 (L' := [_, _, _, _]) (Nat.lt_of_lt_of_le (by decide : (2 : Nat) < 4) (Nat.le_refl _)) rfl ?_
        refine y_iinc C dX6_votersIn_36 (L' := [_, _, _, _]) rfl (nI_1 k) rfl ?_
        refine y_goto (t := 4) C dX6_votersIn_39 (by decide) ?_
        have h9 := ih (k + 1) (by omega)
        first
          | (rw [show mVts r a (k + 1) = mVts r a k by simp only [mVts]; rw [if_neg (by simp_all)]] at h9; exact h9)
          | (rw [show mVts r a (k + 1) = mVts r a k ||| ((1 : Int32) <<< (nI k &&& 31)) by simp only [mVts]; rw [if_pos (by simp_all)]] at h9; exact h9)
set_option maxHeartbeats 4000000 in
set_option maxRecDepth 100000 in
theorem e_X6_votersIn {B : Nat} (hB : isW B) {r : Rw} (σ : xS) (τ : xT) (hR : Rel σ B r) {R ns nr ne t tl : Nat} (I : Inv r R ns nr ne t tl) (a : Int32) : Xi mX6_votersIn [.ref (B + 5), .int a] σ τ (fun o σ1 τ1 => o = (mVts r a ns) ∧ σ = σ1 ∧ τ = τ1) := by
  refine Xi_mk (L := [some (.ref (B + 5)), some (.int a), none, none]) (by decide) rfl (Nat.le_of_ble_eq_true rfl) rfl (fun x C => ?_)
  refine y_iconst (v := 0) C dX6_votersIn_0 (by decide) ?_
  refine y_istore_n C dX6_votersIn_1 (L' := [_, _, _, _]) (Nat.lt_of_lt_of_le (by decide : (2 : Nat) < 4) (Nat.le_refl _)) rfl ?_
  refine y_iconst (v := 0) C dX6_votersIn_2 (by decide) ?_
  refine y_istore_n C dX6_votersIn_3 (L' := [_, _, _, _]) (Nat.lt_of_lt_of_le (by decide : (3 : Nat) < 4) (Nat.le_refl _)) rfl ?_
  exact l_X6_votersIn C hB σ τ hR I a (by
    refine y_iload_n C dX6_votersIn_42 rfl ?_
    exact y_iret C rfl dX6_votersIn_43 ⟨rfl, rfl, rfl⟩) _ 0 (Nat.zero_add _)
theorem bit_and8 : ∀ m, m < 256 → ∀ k, k < 8 → ((nI m >>> (nI k &&& 31)) &&& 1 = 1 ↔ ¬ nI m &&& ((1 : Int32) <<< (nI k &&& 31)) = 0) := by decide +kernel
theorem bit_and {a : Int32} (ha : ∃ m, m < 256 ∧ a = nI m) (k : Nat) (hk : k < 8) : ((a >>> (nI k &&& 31)) &&& 1 = 1 ↔ ¬ a &&& ((1 : Int32) <<< (nI k &&& 31)) = 0) := by
  obtain ⟨m, hm, rfl⟩ := ha
  exact bit_and8 m hm k hk
theorem bit_or8 : ∀ m, m < 256 → ∀ k, k < 8 → nI m ||| ((1 : Int32) <<< (nI k &&& 31)) = nI (m ||| 2 ^ k) := by decide +kernel
theorem mVts_small (r : Rw) (a : Int32) : ∀ n, n ≤ 8 → ∃ m, m < 2 ^ n ∧ mVts r a n = nI m := by
  intro n
  induction n with
  | zero => intro _; exact ⟨0, by decide, rfl⟩
  | succ n ih =>
    intro h
    obtain ⟨m, hm, e⟩ := ih (by omega)
    have h2 : 2 ^ n ≤ 2 ^ 8 := Nat.pow_le_pow_right (by decide) (by omega)
    have h3 : (2 : Nat) ^ n < 2 ^ (n + 1) := by rw [Nat.pow_succ]; omega
    simp only [mVts]
    split
    · exact ⟨m ||| 2 ^ n, Nat.or_lt_two_pow (by omega) h3, by rw [e]; exact bit_or8 m (by omega) n (by omega)⟩
    · exact ⟨m, by omega, e⟩
theorem mVts_256 {r : Rw} {R ns nr ne t tl : Nat} (I : Inv r R ns nr ne t tl) (a : Int32) : ∃ m, m < 256 ∧ mVts r a ns = nI m := by
  have h := I.1.2.1.2
  obtain ⟨m, hm, e⟩ := mVts_small r a ns h
  have h2 : 2 ^ ns ≤ 2 ^ 8 := Nat.pow_le_pow_right (by decide) h
  exact ⟨m, by omega, e⟩
set_option maxHeartbeats 4000000 in
set_option maxRecDepth 100000 in
theorem l_X6_weightOf {x : xC} (C : Cx x mX6_weightOf) {B : Nat} (hB : isW B) {r : Rw} (σ : xS) (τ : xT) (hR : Rel σ B r) {R ns nr ne t tl : Nat} (I : Inv r R ns nr ne t tl) (a : Int32) (ha : ∃ m, m < 256 ∧ a = nI m) {Z : State → Prop} (kx : Y x 35 [some (.ref (B + 5)), some (.int a), some (.int (mWei r a ns)), some (.int (nI ns))] [] σ τ 0 0 Z) : ∀ n k : Nat, k + n = ns → Y x 4 [some (.ref (B + 5)), some (.int a), some (.int (mWei r a k)), some (.int (nI k))] [] σ τ 0 0 Z := by
  intro n
  induction n with
  | zero =>
    intro k hk
    refine y_iload_n C dX6_weightOf_4 rfl ?_
    refine y_aload_n C dX6_weightOf_5 rfl ?_
    refine gR_X6_count C hB hR dX6_weightOf_6 (by decide +kernel) (by decide +kernel) ?_
    refine y_icmp_ge (t := 35) C dX6_weightOf_9 (by decide) (fun c9 => ?_) (fun c9 => absurd (by rw [I.1.2.1.1, show k = ns by omega]; exact Int32.le_refl _) c9)
    obtain rfl : k = ns := by omega
    exact kx
  | succ n ih =>
    intro k hk
    refine y_iload_n C dX6_weightOf_4 rfl ?_
    refine y_aload_n C dX6_weightOf_5 rfl ?_
    refine gR_X6_count C hB hR dX6_weightOf_6 (by decide +kernel) (by decide +kernel) ?_
    refine y_icmp_ge (t := 35) C dX6_weightOf_9 (by decide) (fun c9 => absurd c9 (by rw [I.1.2.1.1]; exact nI_ge (by omega) (by have := I.1.2.1.2; omega))) (fun c9 => ?_)
    refine y_iload_n C dX6_weightOf_12 rfl ?_
    refine y_iconst (v := 1) C dX6_weightOf_13 (by decide) ?_
    refine y_iload_n C dX6_weightOf_14 rfl ?_
    refine y_ishl C dX6_weightOf_15 ?_
    refine y_iand C dX6_weightOf_16 ?_
    refine y_if_eq (t := 29) C dX6_weightOf_17 (by decide) (fun c17 => ?_) (fun c17 => ?_)
    · -- t
      refine y_iinc C dX6_weightOf_29 (L' := [_, _, _, _]) rfl (nI_1 k) rfl ?_
      refine y_goto (t := 4) C dX6_weightOf_32 (by decide) ?_
      have h9 := ih (k + 1) (by omega)
      first
        | (rw [show mWei r a (k + 1) = mWei r a k by simp only [mWei]; rw [if_neg (fun q => by have := (bit_and ha k (by have := I.1.2.1.2; omega)).mp q; simp_all), Int32.add_zero]] at h9; exact h9)
        | (rw [show mWei r a (k + 1) = mWei r a k + r (57 + 7 * k + 4) by simp only [mWei]; rw [if_pos ((bit_and ha k (by have := I.1.2.1.2; omega)).mpr (by simp_all))]] at h9; exact h9)
    · -- f
      refine y_iload_n C dX6_weightOf_20 rfl ?_
      refine y_aload_n C dX6_weightOf_21 rfl ?_
      refine g_X6_weight C hB dX6_weightOf_22 (by decide +kernel) (by decide +kernel) ?_
      refine y_iload_n C dX6_weightOf_25 rfl ?_
      refine aR C hB hR (57 + 7 * k + 4) 10 k 8 (pl_s _ (by have := I.1.2.1.2; omega) _ (by decide)) (lv_s (by have := I.1.2.1.2; omega) (by decide) (inv_s I (by omega))) (by decide) rfl (by decide) rfl (by have := I.1.2.1.2; omega) dX6_weightOf_26 ?_
      refine y_iadd C dX6_weightOf_27 ?_
      refine y_istore_n C dX6_weightOf_28 (L' := [_, _, _, _]) (Nat.lt_of_lt_of_le (by decide : (2 : Nat) < 4) (Nat.le_refl _)) rfl ?_
      refine y_iinc C dX6_weightOf_29 (L' := [_, _, _, _]) rfl (nI_1 k) rfl ?_
      refine y_goto (t := 4) C dX6_weightOf_32 (by decide) ?_
      have h9 := ih (k + 1) (by omega)
      first
        | (rw [show mWei r a (k + 1) = mWei r a k by simp only [mWei]; rw [if_neg (fun q => by have := (bit_and ha k (by have := I.1.2.1.2; omega)).mp q; simp_all), Int32.add_zero]] at h9; exact h9)
        | (rw [show mWei r a (k + 1) = mWei r a k + r (57 + 7 * k + 4) by simp only [mWei]; rw [if_pos ((bit_and ha k (by have := I.1.2.1.2; omega)).mpr (by simp_all))]] at h9; exact h9)
set_option maxHeartbeats 4000000 in
set_option maxRecDepth 100000 in
theorem e_X6_weightOf {B : Nat} (hB : isW B) {r : Rw} (σ : xS) (τ : xT) (hR : Rel σ B r) {R ns nr ne t tl : Nat} (I : Inv r R ns nr ne t tl) (a : Int32) (ha : ∃ m, m < 256 ∧ a = nI m) : Xi mX6_weightOf [.ref (B + 5), .int a] σ τ (fun o σ1 τ1 => o = (mWei r a ns) ∧ σ = σ1 ∧ τ = τ1) := by
  refine Xi_mk (L := [some (.ref (B + 5)), some (.int a), none, none]) (by decide) rfl (Nat.le_of_ble_eq_true rfl) rfl (fun x C => ?_)
  refine y_iconst (v := 0) C dX6_weightOf_0 (by decide) ?_
  refine y_istore_n C dX6_weightOf_1 (L' := [_, _, _, _]) (Nat.lt_of_lt_of_le (by decide : (2 : Nat) < 4) (Nat.le_refl _)) rfl ?_
  refine y_iconst (v := 0) C dX6_weightOf_2 (by decide) ?_
  refine y_istore_n C dX6_weightOf_3 (L' := [_, _, _, _]) (Nat.lt_of_lt_of_le (by decide : (3 : Nat) < 4) (Nat.le_refl _)) rfl ?_
  exact l_X6_weightOf C hB σ τ hR I a ha (by
    refine y_iload_n C dX6_weightOf_35 rfl ?_
    exact y_iret C rfl dX6_weightOf_36 ⟨rfl, rfl, rfl⟩) _ 0 (Nat.zero_add _)
set_option maxHeartbeats 4000000 in
set_option maxRecDepth 100000 in
theorem l_X9_votersIn {x : xC} (C : Cx x mX9_votersIn) (σ : xS) (τ : xT) {r : Rw} (hM : σ 166 = r) {R ns nr ne t tl : Nat} (I : Inv r R ns nr ne t tl) (a : Int32) {Z : State → Prop} (kx : Y x 49 [some (.ref 165), some (.int a), some (.int (mVts r a ns)), some (.int (nI ns))] [] σ τ 0 0 Z) : ∀ n k : Nat, k + n = ns → Y x 4 [some (.ref 165), some (.int a), some (.int (mVts r a k)), some (.int (nI k))] [] σ τ 0 0 Z := by
  intro n
  induction n with
  | zero =>
    intro k hk
    refine y_iload_n C dX9_votersIn_4 rfl ?_
    refine y_aload_n C dX9_votersIn_5 rfl ?_
    refine g_X9_now C dX9_votersIn_6 (by decide +kernel) (by decide +kernel) ?_
    refine y_bipush (v := 10) C dX9_votersIn_9 (by decide) ?_
    refine mA C hM 10 rfl (by decide) dX9_votersIn_11 ?_
    refine y_icmp_ge (t := 49) C dX9_votersIn_12 (by decide) (fun c12 => ?_) (fun c12 => absurd (by rw [I.1.2.1.1, show k = ns by omega]; exact Int32.le_refl _) c12)
    obtain rfl : k = ns := by omega
    exact kx
  | succ n ih =>
    intro k hk
    refine y_iload_n C dX9_votersIn_4 rfl ?_
    refine y_aload_n C dX9_votersIn_5 rfl ?_
    refine g_X9_now C dX9_votersIn_6 (by decide +kernel) (by decide +kernel) ?_
    refine y_bipush (v := 10) C dX9_votersIn_9 (by decide) ?_
    refine mA C hM 10 rfl (by decide) dX9_votersIn_11 ?_
    refine y_icmp_ge (t := 49) C dX9_votersIn_12 (by decide) (fun c12 => absurd c12 (by rw [I.1.2.1.1]; exact nI_ge (by omega) (by have := I.1.2.1.2; omega))) (fun c12 => ?_)
    refine y_iload_n C dX9_votersIn_15 rfl ?_
    refine y_aload_n C dX9_votersIn_16 rfl ?_
    refine y_iload_n C dX9_votersIn_17 rfl ?_
    refine y_iconst (v := 0) C dX9_votersIn_18 (by decide) ?_
    refine y_callVi C (e_X9_its _ _ hM k 0 (by have := I.1.2.1.2; omega) (by decide)) dX9_votersIn_19 rfl gX9_votersIn_X9_its rfl (is_X9) ⟨rfl, qX9_its⟩ ⟨rfl, rfl⟩ ⟨Nat.le_of_ble_eq_true rfl, Nat.le_of_ble_eq_true rfl⟩ rfl (Nat.le_of_ble_eq_true rfl) ⟨Nat.zero_le _, Nat.zero_le _⟩ (fun v1 σ1 τ1 hq => ?_)
    obtain ⟨rfl, rfl, rfl⟩ := hq
    refine y_iload_n C dX9_votersIn_22 rfl ?_
    refine y_icmp_ne (t := 40) C dX9_votersIn_23 (by decide) (fun c23 => ?_) (fun c23 => ?_)
    · -- t
      refine y_iconst (v := 0) C dX9_votersIn_40 (by decide) ?_
      refine y_ior C dX9_votersIn_41 ?_
      refine y_istore_n C dX9_votersIn_42 (L' := [_, _, _, _]) (Nat.lt_of_lt_of_le (by decide : (2 : Nat) < 4) (Nat.le_refl _)) rfl ?_
      refine y_iinc C dX9_votersIn_43 (L' := [_, _, _, _]) rfl (nI_1 k) rfl ?_
      refine y_goto (t := 4) C dX9_votersIn_46 (by decide) ?_
      have h9 := ih (k + 1) (by omega)
      first
        | (rw [show mVts r a (k + 1) = mVts r a k ||| 0 by simp only [mVts]; rw [if_neg (by simp_all), Int32.or_zero]] at h9; exact h9)
        | (rw [show mVts r a (k + 1) = mVts r a k ||| ((1 : Int32) <<< (nI k &&& 31)) by simp only [mVts]; rw [if_pos (by simp_all)]] at h9; exact h9)
    · -- f
      refine y_aload_n C dX9_votersIn_26 rfl ?_
      refine y_iload_n C dX9_votersIn_27 rfl ?_
      refine y_callVi C (e_X9_votes _ _ hM I k (by omega)) dX9_votersIn_28 rfl gX9_votersIn_X9_votes rfl (is_X9) ⟨rfl, qX9_votes⟩ ⟨rfl, rfl⟩ ⟨Nat.le_of_ble_eq_true rfl, Nat.le_of_ble_eq_true rfl⟩ rfl (Nat.le_of_ble_eq_true rfl) ⟨Nat.zero_le _, Nat.zero_le _⟩ (fun v1 σ1 τ1 hq => ?_)
      obtain ⟨rfl, rfl, rfl⟩ := hq
      refine y_if_eq (t := 40) C dX9_votersIn_31 (by decide) (fun c31 => ?_) (fun c31 => ?_)
      · -- t
        refine y_iconst (v := 0) C dX9_votersIn_40 (by decide) ?_
        refine y_ior C dX9_votersIn_41 ?_
        refine y_istore_n C dX9_votersIn_42 (L' := [_, _, _, _]) (Nat.lt_of_lt_of_le (by decide : (2 : Nat) < 4) (Nat.le_refl _)) rfl ?_
        refine y_iinc C dX9_votersIn_43 (L' := [_, _, _, _]) rfl (nI_1 k) rfl ?_
        refine y_goto (t := 4) C dX9_votersIn_46 (by decide) ?_
        have h9 := ih (k + 1) (by omega)
        first
          | (rw [show mVts r a (k + 1) = mVts r a k ||| 0 by simp only [mVts]; rw [if_neg (by simp_all), Int32.or_zero]] at h9; exact h9)
          | (rw [show mVts r a (k + 1) = mVts r a k ||| ((1 : Int32) <<< (nI k &&& 31)) by simp only [mVts]; rw [if_pos (by simp_all)]] at h9; exact h9)
      · -- f
        refine y_iconst (v := 1) C dX9_votersIn_34 (by decide) ?_
        refine y_iload_n C dX9_votersIn_35 rfl ?_
        refine y_ishl C dX9_votersIn_36 ?_
        refine y_goto (t := 41) C dX9_votersIn_37 (by decide) ?_
        refine y_ior C dX9_votersIn_41 ?_
        refine y_istore_n C dX9_votersIn_42 (L' := [_, _, _, _]) (Nat.lt_of_lt_of_le (by decide : (2 : Nat) < 4) (Nat.le_refl _)) rfl ?_
        refine y_iinc C dX9_votersIn_43 (L' := [_, _, _, _]) rfl (nI_1 k) rfl ?_
        refine y_goto (t := 4) C dX9_votersIn_46 (by decide) ?_
        have h9 := ih (k + 1) (by omega)
        first
          | (rw [show mVts r a (k + 1) = mVts r a k ||| 0 by simp only [mVts]; rw [if_neg (by simp_all), Int32.or_zero]] at h9; exact h9)
          | (rw [show mVts r a (k + 1) = mVts r a k ||| ((1 : Int32) <<< (nI k &&& 31)) by simp only [mVts]; rw [if_pos (by simp_all)]] at h9; exact h9)
set_option maxHeartbeats 4000000 in
set_option maxRecDepth 100000 in
theorem e_X9_votersIn (σ : xS) (τ : xT) {r : Rw} (hM : σ 166 = r) {R ns nr ne t tl : Nat} (I : Inv r R ns nr ne t tl) (a : Int32) : Xi mX9_votersIn [.ref 165, .int a] σ τ (fun o σ1 τ1 => o = (mVts r a ns) ∧ σ = σ1 ∧ τ = τ1) := by
  refine Xi_mk (L := [some (.ref 165), some (.int a), none, none]) (by decide) rfl (Nat.le_of_ble_eq_true rfl) rfl (fun x C => ?_)
  refine y_iconst (v := 0) C dX9_votersIn_0 (by decide) ?_
  refine y_istore_n C dX9_votersIn_1 (L' := [_, _, _, _]) (Nat.lt_of_lt_of_le (by decide : (2 : Nat) < 4) (Nat.le_refl _)) rfl ?_
  refine y_iconst (v := 0) C dX9_votersIn_2 (by decide) ?_
  refine y_istore_n C dX9_votersIn_3 (L' := [_, _, _, _]) (Nat.lt_of_lt_of_le (by decide : (3 : Nat) < 4) (Nat.le_refl _)) rfl ?_
  exact l_X9_votersIn C σ τ hM I a (by
    refine y_iload_n C dX9_votersIn_49 rfl ?_
    exact y_iret C rfl dX9_votersIn_50 ⟨rfl, rfl, rfl⟩) _ 0 (Nat.zero_add _)
set_option maxHeartbeats 4000000 in
set_option maxRecDepth 100000 in
theorem l_X9_weightOf {x : xC} (C : Cx x mX9_weightOf) (σ : xS) (τ : xT) {r : Rw} (hM : σ 166 = r) {R ns nr ne t tl : Nat} (I : Inv r R ns nr ne t tl) (a : Int32) {Z : State → Prop} (kx : Y x 43 [some (.ref 165), some (.int a), some (.int (mWei r a ns)), some (.int (nI ns))] [] σ τ 0 0 Z) : ∀ n k : Nat, k + n = ns → Y x 4 [some (.ref 165), some (.int a), some (.int (mWei r a k)), some (.int (nI k))] [] σ τ 0 0 Z := by
  intro n
  induction n with
  | zero =>
    intro k hk
    refine y_iload_n C dX9_weightOf_4 rfl ?_
    refine y_aload_n C dX9_weightOf_5 rfl ?_
    refine g_X9_now C dX9_weightOf_6 (by decide +kernel) (by decide +kernel) ?_
    refine y_bipush (v := 10) C dX9_weightOf_9 (by decide) ?_
    refine mA C hM 10 rfl (by decide) dX9_weightOf_11 ?_
    refine y_icmp_ge (t := 43) C dX9_weightOf_12 (by decide) (fun c12 => ?_) (fun c12 => absurd (by rw [I.1.2.1.1, show k = ns by omega]; exact Int32.le_refl _) c12)
    obtain rfl : k = ns := by omega
    exact kx
  | succ n ih =>
    intro k hk
    refine y_iload_n C dX9_weightOf_4 rfl ?_
    refine y_aload_n C dX9_weightOf_5 rfl ?_
    refine g_X9_now C dX9_weightOf_6 (by decide +kernel) (by decide +kernel) ?_
    refine y_bipush (v := 10) C dX9_weightOf_9 (by decide) ?_
    refine mA C hM 10 rfl (by decide) dX9_weightOf_11 ?_
    refine y_icmp_ge (t := 43) C dX9_weightOf_12 (by decide) (fun c12 => absurd c12 (by rw [I.1.2.1.1]; exact nI_ge (by omega) (by have := I.1.2.1.2; omega))) (fun c12 => ?_)
    refine y_iload_n C dX9_weightOf_15 rfl ?_
    refine y_iload_n C dX9_weightOf_16 rfl ?_
    refine y_iload_n C dX9_weightOf_17 rfl ?_
    refine y_ishr C dX9_weightOf_18 ?_
    refine y_iconst (v := 1) C dX9_weightOf_19 (by decide) ?_
    refine y_iand C dX9_weightOf_20 ?_
    refine y_iconst (v := 1) C dX9_weightOf_21 (by decide) ?_
    refine y_icmp_ne (t := 34) C dX9_weightOf_22 (by decide) (fun c22 => ?_) (fun c22 => ?_)
    · -- t
      refine y_iconst (v := 0) C dX9_weightOf_34 (by decide) ?_
      refine y_iadd C dX9_weightOf_35 ?_
      refine y_istore_n C dX9_weightOf_36 (L' := [_, _, _, _]) (Nat.lt_of_lt_of_le (by decide : (2 : Nat) < 4) (Nat.le_refl _)) rfl ?_
      refine y_iinc C dX9_weightOf_37 (L' := [_, _, _, _]) rfl (nI_1 k) rfl ?_
      refine y_goto (t := 4) C dX9_weightOf_40 (by decide) ?_
      have h9 := ih (k + 1) (by omega)
      first
        | (rw [show mWei r a (k + 1) = mWei r a k + 0 by simp only [mWei]; rw [if_neg (by simp_all)]] at h9; exact h9)
        | (rw [show mWei r a (k + 1) = mWei r a k + r (57 + 7 * k + 4) by simp only [mWei]; rw [if_pos (by simp_all)]] at h9; exact h9)
    · -- f
      refine y_aload_n C dX9_weightOf_25 rfl ?_
      refine y_iload_n C dX9_weightOf_26 rfl ?_
      refine y_iconst (v := 4) C dX9_weightOf_27 (by decide) ?_
      refine y_callVi C (e_X9_its _ _ hM k 4 (by have := I.1.2.1.2; omega) (by decide)) dX9_weightOf_28 rfl gX9_weightOf_X9_its rfl (is_X9) ⟨rfl, qX9_its⟩ ⟨rfl, rfl⟩ ⟨Nat.le_of_ble_eq_true rfl, Nat.le_of_ble_eq_true rfl⟩ rfl (Nat.le_of_ble_eq_true rfl) ⟨Nat.zero_le _, Nat.zero_le _⟩ (fun v1 σ1 τ1 hq => ?_)
      obtain ⟨rfl, rfl, rfl⟩ := hq
      refine y_goto (t := 35) C dX9_weightOf_31 (by decide) ?_
      refine y_iadd C dX9_weightOf_35 ?_
      refine y_istore_n C dX9_weightOf_36 (L' := [_, _, _, _]) (Nat.lt_of_lt_of_le (by decide : (2 : Nat) < 4) (Nat.le_refl _)) rfl ?_
      refine y_iinc C dX9_weightOf_37 (L' := [_, _, _, _]) rfl (nI_1 k) rfl ?_
      refine y_goto (t := 4) C dX9_weightOf_40 (by decide) ?_
      have h9 := ih (k + 1) (by omega)
      first
        | (rw [show mWei r a (k + 1) = mWei r a k + 0 by simp only [mWei]; rw [if_neg (by simp_all)]] at h9; exact h9)
        | (rw [show mWei r a (k + 1) = mWei r a k + r (57 + 7 * k + 4) by simp only [mWei]; rw [if_pos (by simp_all)]] at h9; exact h9)
set_option maxHeartbeats 4000000 in
set_option maxRecDepth 100000 in
theorem e_X9_weightOf (σ : xS) (τ : xT) {r : Rw} (hM : σ 166 = r) {R ns nr ne t tl : Nat} (I : Inv r R ns nr ne t tl) (a : Int32) : Xi mX9_weightOf [.ref 165, .int a] σ τ (fun o σ1 τ1 => o = (mWei r a ns) ∧ σ = σ1 ∧ τ = τ1) := by
  refine Xi_mk (L := [some (.ref 165), some (.int a), none, none]) (by decide) rfl (Nat.le_of_ble_eq_true rfl) rfl (fun x C => ?_)
  refine y_iconst (v := 0) C dX9_weightOf_0 (by decide) ?_
  refine y_istore_n C dX9_weightOf_1 (L' := [_, _, _, _]) (Nat.lt_of_lt_of_le (by decide : (2 : Nat) < 4) (Nat.le_refl _)) rfl ?_
  refine y_iconst (v := 0) C dX9_weightOf_2 (by decide) ?_
  refine y_istore_n C dX9_weightOf_3 (L' := [_, _, _, _]) (Nat.lt_of_lt_of_le (by decide : (3 : Nat) < 4) (Nat.le_refl _)) rfl ?_
  exact l_X9_weightOf C σ τ hM I a (by
    refine y_iload_n C dX9_weightOf_43 rfl ?_
    exact y_iret C rfl dX9_weightOf_44 ⟨rfl, rfl, rfl⟩) _ 0 (Nat.zero_add _)
set_option maxHeartbeats 4000000 in
set_option maxRecDepth 100000 in
theorem l_X9_isAgreed {x : xC} (C : Cx x mX9_isAgreed) (σ : xS) (τ : xT) (a s : Int32) {Z : State → Prop} (kx : Y x 33 [some (.ref 165), some (.int a), some (.int s), some (.int (mMny s 8)), some (.int (nI 8))] [] σ τ 0 0 Z) : ∀ n k : Nat, k + n = 8 → Y x 11 [some (.ref 165), some (.int a), some (.int s), some (.int (mMny s k)), some (.int (nI k))] [] σ τ 0 0 Z := by
  intro n
  induction n with
  | zero =>
    intro k hk
    refine y_iload C dX9_isAgreed_11 rfl ?_
    refine y_bipush (v := 8) C dX9_isAgreed_13 (by decide) ?_
    refine y_icmp_ge (t := 33) C dX9_isAgreed_15 (by decide) (fun c15 => ?_) (fun c15 => absurd (by rw [show k = 8 by omega]; exact Int32.le_refl _) c15)
    obtain rfl : k = 8 := by omega
    exact kx
  | succ n ih =>
    intro k hk
    refine y_iload C dX9_isAgreed_11 rfl ?_
    refine y_bipush (v := 8) C dX9_isAgreed_13 (by decide) ?_
    refine y_icmp_ge (t := 33) C dX9_isAgreed_15 (by decide) (fun c15 => absurd c15 (nI_ge (a := k) (b := 8) (by omega) (by decide))) (fun c15 => ?_)
    refine y_iload_n C dX9_isAgreed_18 rfl ?_
    refine y_iload_n C dX9_isAgreed_19 rfl ?_
    refine y_iload C dX9_isAgreed_20 rfl ?_
    refine y_ishr C dX9_isAgreed_22 ?_
    refine y_iconst (v := 1) C dX9_isAgreed_23 (by decide) ?_
    refine y_iand C dX9_isAgreed_24 ?_
    refine y_iadd C dX9_isAgreed_25 ?_
    refine y_istore_n C dX9_isAgreed_26 (L' := [_, _, _, _, _]) (Nat.lt_of_lt_of_le (by decide : (3 : Nat) < 5) (Nat.le_refl _)) rfl ?_
    refine y_iinc C dX9_isAgreed_27 (L' := [_, _, _, _, _]) rfl (nI_1 k) rfl ?_
    refine y_goto (t := 11) C dX9_isAgreed_30 (by decide) ?_
    exact ih (k + 1) (by omega)
set_option maxHeartbeats 4000000 in
set_option maxRecDepth 100000 in
theorem e_X9_isAgreed (σ : xS) (τ : xT) {r : Rw} (hM : σ 166 = r) {R ns nr ne t tl : Nat} (I : Inv r R ns nr ne t tl) (a : Int32) : Xi mX9_isAgreed [.ref 165, .int a] σ τ (fun o σ1 τ1 => o = (mAgrI r a) ∧ σ = σ1 ∧ τ = τ1) := by
  refine Xi_mk (L := [some (.ref 165), some (.int a), none, none, none]) (by decide) rfl (Nat.le_of_ble_eq_true rfl) rfl (fun x C => ?_)
  refine y_aload_n C dX9_isAgreed_0 rfl ?_
  refine y_iload_n C dX9_isAgreed_1 rfl ?_
  refine y_callVi C (e_X9_votersIn _ _ hM I a) dX9_isAgreed_2 rfl gX9_isAgreed_X9_votersIn rfl (is_X9) ⟨rfl, qX9_votersIn⟩ ⟨rfl, rfl⟩ ⟨Nat.le_of_ble_eq_true rfl, Nat.le_of_ble_eq_true rfl⟩ rfl (Nat.le_of_ble_eq_true rfl) ⟨Nat.zero_le _, Nat.zero_le _⟩ (fun v1 σ1 τ1 hq => ?_)
  obtain ⟨rfl, rfl, rfl⟩ := hq
  refine y_istore_n C dX9_isAgreed_5 (L' := [_, _, _, _, _]) (Nat.lt_of_lt_of_le (by decide : (2 : Nat) < 5) (Nat.le_refl _)) rfl ?_
  refine y_iconst (v := 0) C dX9_isAgreed_6 (by decide) ?_
  refine y_istore_n C dX9_isAgreed_7 (L' := [_, _, _, _, _]) (Nat.lt_of_lt_of_le (by decide : (3 : Nat) < 5) (Nat.le_refl _)) rfl ?_
  refine y_iconst (v := 0) C dX9_isAgreed_8 (by decide) ?_
  refine y_istore C dX9_isAgreed_9 (L' := [_, _, _, _, _]) (Nat.lt_of_lt_of_le (by decide : (4 : Nat) < 5) (Nat.le_refl _)) rfl ?_
  refine l_X9_isAgreed C σ τ a _ ?_ _ 0 (Nat.zero_add _)
  refine y_iload_n C dX9_isAgreed_33 rfl ?_
  refine y_iconst (v := 2) C dX9_isAgreed_34 (by decide) ?_
  refine y_icmp_lt (t := 56) C dX9_isAgreed_35 (by decide) (fun c35 => ?_) (fun c35 => ?_)
  · -- t
    refine y_iconst (v := 0) C dX9_isAgreed_56 (by decide) ?_
    exact y_zret C rfl dX9_isAgreed_57 (by first | exact Or.inl rfl | exact Or.inr rfl) (⟨by simp only [mAgrI, inv_cs I, Int32.lt_iff_toInt_lt, Int32.le_iff_toInt_le] at *; (repeat' split) <;> simp_all <;> omega, rfl, rfl⟩)
  · -- f
    refine y_aload_n C dX9_isAgreed_38 rfl ?_
    refine y_iload_n C dX9_isAgreed_39 rfl ?_
    refine y_callVi C (e_X9_weightOf _ _ hM I _) dX9_isAgreed_40 rfl gX9_isAgreed_X9_weightOf rfl (is_X9) ⟨rfl, qX9_weightOf⟩ ⟨rfl, rfl⟩ ⟨Nat.le_of_ble_eq_true rfl, Nat.le_of_ble_eq_true rfl⟩ rfl (Nat.le_of_ble_eq_true rfl) ⟨Nat.zero_le _, Nat.zero_le _⟩ (fun v1 σ1 τ1 hq => ?_)
    obtain ⟨rfl, rfl, rfl⟩ := hq
    refine y_aload_n C dX9_isAgreed_43 rfl ?_
    refine g_X9_now C dX9_isAgreed_44 (by decide +kernel) (by decide +kernel) ?_
    refine y_iconst (v := 1) C dX9_isAgreed_47 (by decide) ?_
    refine mA C hM 1 rfl (by decide) dX9_isAgreed_48 ?_
    refine y_icmp_lt (t := 56) C dX9_isAgreed_49 (by decide) (fun c49 => ?_) (fun c49 => ?_)
    · -- t
      refine y_iconst (v := 0) C dX9_isAgreed_56 (by decide) ?_
      exact y_zret C rfl dX9_isAgreed_57 (by first | exact Or.inl rfl | exact Or.inr rfl) (⟨by simp only [mAgrI, inv_cs I, Int32.lt_iff_toInt_lt, Int32.le_iff_toInt_le] at *; (repeat' split) <;> simp_all <;> omega, rfl, rfl⟩)
    · -- f
      refine y_iconst (v := 1) C dX9_isAgreed_52 (by decide) ?_
      refine y_goto (t := 57) C dX9_isAgreed_53 (by decide) ?_
      exact y_zret C rfl dX9_isAgreed_57 (by first | exact Or.inl rfl | exact Or.inr rfl) (⟨by simp only [mAgrI, inv_cs I, Int32.lt_iff_toInt_lt, Int32.le_iff_toInt_le] at *; (repeat' split) <;> simp_all <;> omega, rfl, rfl⟩)
